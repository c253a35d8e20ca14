import java.util.ArrayList;
import java.util.Arrays;

/**
 * Plans over small tables. A run works the rows out as if memory had no limit and counts beside it
 * what the limit would have cost: both are promised, and neither depends on the other.
 */
public final class BatchPlans {
    private static final int MOST_BATCH = 16;
    private static final int MOST_MEMORY = 64;
    private static final int TABLES = 3;
    private static final int TABLE_ROWS = 16;
    private static final int TABLE_WIDTH = 3;
    private static final int GROUP_WIDTH = 3;
    private static final int NODES = 12;
    private static final int MOST_WIDTH = 6;
    private static final int OUTPUT_ROWS = 128;
    private static final int TESTS = 3;
    private static final int OPERATIONS = 3;

    private final Rows[] tables;
    private final Rows[] outputs;
    private final ArrayList<Node> plan;
    private final Cost cost;
    private final Rows result;
    private int batches;
    private int written;
    private int held;

    public BatchPlans(int batch, int memory) {
        tables = new Rows[TABLES];
        for (int t = 0; t < TABLES; t++) {
            tables[t] = new Rows(TABLE_ROWS, TABLE_WIDTH);
            tables[t].empty(TABLE_WIDTH);
        }
        outputs = new Rows[NODES];
        for (int n = 0; n < NODES; n++) {
            outputs[n] = new Rows(OUTPUT_ROWS, MOST_WIDTH);
        }
        plan = new ArrayList<>();
        cost = new Cost(between(1, batch, MOST_BATCH), between(1, memory, MOST_MEMORY));
        result = new Rows(OUTPUT_ROWS, MOST_WIDTH);
    }

    public int row(int table, int a, int b, int c) throws IllegalArgumentException, IllegalStateException {
        needKind(table, TABLES);
        Rows rows = tables[table];
        if (rows.count >= TABLE_ROWS) {
            throw new IllegalStateException("the table is full");
        }
        rows.addThree(a, b, c);
        return rows.count;
    }

    public int scan(int table) throws IllegalArgumentException, IllegalStateException {
        needKind(table, TABLES);
        needRoomForNode();
        return addNode(new ScanNode(plan.size(), tables[table]));
    }

    public int filter(int node, int column, int test, int number)
            throws IllegalArgumentException, IllegalStateException {
        Node input = nodeAt(node);
        needColumn(input, column);
        needKind(test, TESTS);
        needRoomForNode();
        int next = plan.size();
        return addNode(new FilterNode(next, outputs[next], input, column, test, number));
    }

    public int map(int node, int column, int operation, int other)
            throws IllegalArgumentException, IllegalStateException {
        Node input = nodeAt(node);
        needColumn(input, column);
        needColumn(input, other);
        needKind(operation, OPERATIONS);
        needRoomForNode();
        int next = plan.size();
        return addNode(new MapNode(next, outputs[next], input, column, operation, other));
    }

    public int join(int left, int right, int leftColumn, int rightColumn)
            throws IllegalArgumentException, IllegalStateException {
        Node leftInput = nodeAt(left);
        Node rightInput = nodeAt(right);
        needColumn(leftInput, leftColumn);
        needColumn(rightInput, rightColumn);
        needRoomForNode();
        if (leftInput.columns + rightInput.columns > MOST_WIDTH) {
            throw new IllegalStateException("the join would be too wide");
        }
        int next = plan.size();
        return addNode(new JoinNode(next, outputs[next], leftInput, rightInput, leftColumn, rightColumn));
    }

    public int group(int node, int key, int value) throws IllegalArgumentException, IllegalStateException {
        Node input = nodeAt(node);
        needColumn(input, key);
        needColumn(input, value);
        needRoomForNode();
        int next = plan.size();
        return addNode(new GroupNode(next, outputs[next], input, key, value));
    }

    public int run(int node) throws IllegalArgumentException, ArithmeticException, IllegalStateException {
        Node wanted = nodeAt(node);
        cost.restart();
        for (int n = 0; n <= node; n++) {
            if (wanted.isMadeOf(n)) {
                plan.get(n).workOut(cost);
            }
        }
        // Only here, behind all that can throw: a run that fails leaves the last result as it is.
        keepResult(wanted.output);
        return result.count;
    }

    public int cell(int k, int c) throws IndexOutOfBoundsException {
        if (k < 0 || k >= result.count || c < 0 || c >= result.columns) {
            throw new IndexOutOfBoundsException("no such cell");
        }
        return result.at(k, c);
    }

    public int rows() {
        return result.count;
    }

    public int width() {
        return result.columns;
    }

    public int batches() {
        return batches;
    }

    public int written() {
        return written;
    }

    public int held() {
        return held;
    }

    public int nodes() {
        return plan.size();
    }

    public void clear(boolean tables) {
        plan.clear();
        if (tables) {
            for (int t = 0; t < TABLES; t++) {
                this.tables[t].empty(TABLE_WIDTH);
            }
        }
    }

    private static int between(int least, int number, int most) {
        return Math.max(least, Math.min(most, number));
    }

    private static void needKind(int kind, int kinds) {
        if (kind < 0 || kind >= kinds) {
            throw new IllegalArgumentException("no such table, test or operation");
        }
    }

    private static void needColumn(Node node, int column) {
        if (column < 0 || column >= node.columns) {
            throw new IllegalArgumentException("no such column");
        }
    }

    private Node nodeAt(int node) {
        if (node < 0 || node >= plan.size()) {
            throw new IllegalArgumentException("no such node");
        }
        return plan.get(node);
    }

    private void needRoomForNode() {
        if (plan.size() >= NODES) {
            throw new IllegalStateException("the plan is full");
        }
    }

    private int addNode(Node node) {
        plan.add(node);
        return plan.size() - 1;
    }

    private void keepResult(Rows output) {
        result.empty(output.columns);
        for (int i = 0; i < output.count; i++) {
            result.addInOrder(output, i);
        }
        batches = cost.batches;
        written = cost.written;
        held = cost.held;
    }

    /** Rows of one width, one behind the other in an array that is made once and used for every run. */
    private static final class Rows {
        private final int[] cells;
        private int columns;
        private int count;

        Rows(int mostRows, int mostColumns) {
            cells = new int[mostRows * mostColumns];
        }

        void empty(int newColumns) {
            columns = newColumns;
            count = 0;
        }

        int at(int i, int column) {
            return cells[i * columns + column];
        }

        void put(int i, int column, int number) {
            cells[i * columns + column] = number;
        }

        void addThree(int a, int b, int c) {
            int start = count * columns;
            cells[start] = a;
            cells[start + 1] = b;
            cells[start + 2] = c;
            count++;
        }

        void addCopy(Rows from, int i) {
            System.arraycopy(from.cells, i * columns, cells, count * columns, columns);
            count++;
        }

        void addPair(Rows left, int i, Rows right, int j) {
            int start = count * columns;
            System.arraycopy(left.cells, i * left.columns, cells, start, left.columns);
            System.arraycopy(right.cells, j * right.columns, cells, start + left.columns, right.columns);
            count++;
        }

        void addInOrder(Rows from, int i) {
            int place = count;
            while (place > 0 && isLess(from, i, place - 1)) {
                place--;
            }
            int start = place * columns;
            System.arraycopy(cells, start, cells, start + columns, (count - place) * columns);
            System.arraycopy(from.cells, i * columns, cells, start, columns);
            count++;
        }

        boolean has(int column, int number) {
            for (int i = 0; i < count; i++) {
                if (at(i, column) == number) {
                    return true;
                }
            }
            return false;
        }

        private boolean isLess(Rows from, int i, int place) {
            for (int c = 0; c < columns; c++) {
                int order = Integer.compare(from.at(i, c), at(place, c));
                if (order != 0) {
                    return order < 0;
                }
            }
            return false;
        }
    }

    /** How many rows fall into each part at each level. */
    private static final class Parts {
        private static final int SPREAD = 0x9E3779B1;
        private static final int LAST_LEVEL = 3;
        private static final int BITS_A_LEVEL = 2;
        private static final int ALL_BITS = LAST_LEVEL * BITS_A_LEVEL;
        private static final int FINEST_PARTS = 1 << ALL_BITS;

        // A level takes the next lower bits of the same product, so a part is a stretch of the finest
        // parts, and running sums over these answer for every level.
        private final int[] before = new int[FINEST_PARTS + 1];

        void tally(Rows from, int column) {
            Arrays.fill(before, 0);
            for (int i = 0; i < from.count; i++) {
                before[finestPart(from.at(i, column)) + 1]++;
            }
            for (int p = 0; p < FINEST_PARTS; p++) {
                before[p + 1] += before[p];
            }
        }

        /** Parts are numbered through at each level: those of part p are 4p .. 4p + 3 at the next one. */
        int size(int level, int part) {
            int finer = ALL_BITS - level * BITS_A_LEVEL;
            return before[(part + 1) << finer] - before[part << finer];
        }

        private static int finestPart(int key) {
            return (key * SPREAD) >>> (32 - ALL_BITS);
        }
    }

    /** What a run costs under the limits: batches read, rows written, the most held at a time. */
    private static final class Cost {
        private static final int PARTS_A_LEVEL = 1 << Parts.BITS_A_LEVEL;

        private final int batch;
        private final int memory;
        private final Parts streamed = new Parts();
        private final Parts kept = new Parts();
        private int batches;
        private int written;
        private int held;

        Cost(int batch, int memory) {
            this.batch = batch;
            this.memory = memory;
        }

        void restart() {
            batches = 0;
            written = 0;
            held = 0;
        }

        void countRead(Rows input) {
            batches += (input.count + batch - 1) / batch;
        }

        void countJoin(Rows left, int leftColumn, Rows right, int rightColumn) {
            streamed.tally(left, leftColumn);
            kept.tally(right, rightColumn);
            countPart(0, 0, true);
        }

        void countGroup(Rows input, int key, Rows groups) {
            streamed.tally(input, key);
            kept.tally(groups, 0);
            countPart(0, 0, false);
        }

        /** A group's keys fill memory as a join's right rows do, but they are no rows to be written. */
        private void countPart(int level, int part, boolean keptAreRows) {
            int passing = streamed.size(level, part);
            int keeping = kept.size(level, part);
            if (passing == 0 || keeping == 0) {
                return;
            }
            if (keeping <= memory || level >= Parts.LAST_LEVEL) {
                held = Math.max(held, Math.min(memory, keeping));
                return;
            }
            written += keptAreRows ? passing + keeping : passing;
            for (int p = 0; p < PARTS_A_LEVEL; p++) {
                countPart(level + 1, part * PARTS_A_LEVEL + p, keptAreRows);
            }
        }
    }

    private abstract static class Node {
        final int columns;
        final Rows output;
        // One bit a node, its own among them: no walk down the plan is needed to know what a run works out.
        final int madeOf;

        Node(int columns, Rows output, int madeOf) {
            this.columns = columns;
            this.output = output;
            this.madeOf = madeOf;
        }

        final boolean isMadeOf(int node) {
            return (madeOf & (1 << node)) != 0;
        }

        abstract void workOut(Cost cost);

        static int exactInt(long number) {
            if (number != (int) number) {
                throw new ArithmeticException("the exact number is no int");
            }
            return (int) number;
        }
    }

    private static final class ScanNode extends Node {
        // The table itself is the output: no table changes while a run reads it.
        ScanNode(int number, Rows table) {
            super(TABLE_WIDTH, table, 1 << number);
        }

        void workOut(Cost cost) {
            cost.countRead(output);
        }
    }

    private static final class FilterNode extends Node {
        private final Rows input;
        private final int column;
        private final int test;
        private final int number;

        FilterNode(int node, Rows output, Node input, int column, int test, int number) {
            super(input.columns, output, input.madeOf | (1 << node));
            this.input = input.output;
            this.column = column;
            this.test = test;
            this.number = number;
        }

        void workOut(Cost cost) {
            cost.countRead(input);
            output.empty(columns);
            for (int i = 0; i < input.count; i++) {
                if (passes(input.at(i, column))) {
                    output.addCopy(input, i);
                }
            }
        }

        private boolean passes(int found) {
            switch (test) {
                case 0:
                    return found < number;
                case 1:
                    return found == number;
                default:
                    return found > number;
            }
        }
    }

    private static final class MapNode extends Node {
        private final Rows input;
        private final int column;
        private final int operation;
        private final int other;

        MapNode(int node, Rows output, Node input, int column, int operation, int other) {
            super(input.columns, output, input.madeOf | (1 << node));
            this.input = input.output;
            this.column = column;
            this.operation = operation;
            this.other = other;
        }

        void workOut(Cost cost) {
            cost.countRead(input);
            output.empty(columns);
            for (int i = 0; i < input.count; i++) {
                output.addCopy(input, i);
                output.put(i, column, exactInt(changed(input.at(i, column), input.at(i, other))));
            }
        }

        private long changed(long first, long second) {
            switch (operation) {
                case 0:
                    return first + second;
                case 1:
                    return first - second;
                default:
                    return first * second;
            }
        }
    }

    private static final class JoinNode extends Node {
        private final Rows left;
        private final Rows right;
        private final int leftColumn;
        private final int rightColumn;

        JoinNode(int node, Rows output, Node left, Node right, int leftColumn, int rightColumn) {
            super(left.columns + right.columns, output, left.madeOf | right.madeOf | (1 << node));
            this.left = left.output;
            this.right = right.output;
            this.leftColumn = leftColumn;
            this.rightColumn = rightColumn;
        }

        void workOut(Cost cost) {
            cost.countRead(left);
            cost.countRead(right);
            output.empty(columns);
            for (int i = 0; i < left.count; i++) {
                addPairsOf(i);
            }
            cost.countJoin(left, leftColumn, right, rightColumn);
        }

        private void addPairsOf(int i) {
            int key = left.at(i, leftColumn);
            for (int j = 0; j < right.count; j++) {
                if (right.at(j, rightColumn) == key) {
                    needRoomForRow();
                    output.addPair(left, i, right, j);
                }
            }
        }

        private void needRoomForRow() {
            if (output.count >= OUTPUT_ROWS) {
                throw new IllegalStateException("the join has too many rows");
            }
        }
    }

    private static final class GroupNode extends Node {
        private final Rows input;
        private final int key;
        private final int value;

        GroupNode(int node, Rows output, Node input, int key, int value) {
            super(GROUP_WIDTH, output, input.madeOf | (1 << node));
            this.input = input.output;
            this.key = key;
            this.value = value;
        }

        void workOut(Cost cost) {
            cost.countRead(input);
            output.empty(columns);
            for (int i = 0; i < input.count; i++) {
                int number = input.at(i, key);
                if (!output.has(0, number)) {
                    addGroupOf(number);
                }
            }
            cost.countGroup(input, key, output);
        }

        // Only the whole sum has to be an int, so it is kept as a long until all rows are in it.
        private void addGroupOf(int number) {
            int many = 0;
            long sum = 0;
            for (int i = 0; i < input.count; i++) {
                if (input.at(i, key) == number) {
                    many++;
                    sum += input.at(i, value);
                }
            }
            output.addThree(number, many, exactInt(sum));
        }
    }
}
