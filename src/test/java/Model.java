import java.math.BigInteger;
import java.util.ArrayList;
import java.util.Comparator;
import java.util.List;
import java.util.TreeMap;

/**
 * The document once more, by other means: rows are really parted and joined part by part, held chunk
 * by chunk, numbers are BigIntegers, and the result is sorted by the library.
 */
final class Model {
    private record Node(char kind, int first, int second, int a, int b, int c, int width) {
    }

    private final int batch;
    private final int memory;
    private final List<List<int[]>> tables = new ArrayList<>();
    private final List<Node> plan = new ArrayList<>();
    private List<int[]> result = new ArrayList<>();
    private int width;
    private int batches;
    private int written;
    private int held;
    private int runBatches;
    private int runWritten;
    private int runHeld;

    Model(int batch, int memory) {
        this.batch = batch < 1 ? 1 : batch > 16 ? 16 : batch;
        this.memory = memory < 1 ? 1 : memory > 64 ? 64 : memory;
        for (int t = 0; t < 3; t++) {
            tables.add(new ArrayList<>());
        }
    }

    int row(int table, int a, int b, int c) {
        argument(table >= 0 && table < 3);
        state(tables.get(table).size() < 16);
        tables.get(table).add(new int[] {a, b, c});
        return tables.get(table).size();
    }

    int scan(int table) {
        argument(table >= 0 && table < 3);
        return add(new Node('s', table, -1, 0, 0, 0, 3));
    }

    int filter(int node, int column, int test, int number) {
        argument(isColumn(node, column) && test >= 0 && test <= 2);
        return add(new Node('f', node, -1, column, test, number, plan.get(node).width));
    }

    int map(int node, int column, int operation, int other) {
        argument(isColumn(node, column) && isColumn(node, other) && operation >= 0 && operation <= 2);
        return add(new Node('m', node, -1, column, operation, other, plan.get(node).width));
    }

    int join(int left, int right, int leftColumn, int rightColumn) {
        argument(isColumn(left, leftColumn) && isColumn(right, rightColumn));
        int both = plan.get(left).width + plan.get(right).width;
        state(both <= 6);
        return add(new Node('j', left, right, leftColumn, rightColumn, 0, both));
    }

    int group(int node, int key, int value) {
        argument(isColumn(node, key) && isColumn(node, value));
        return add(new Node('g', node, -1, key, value, 0, 3));
    }

    int run(int node) {
        argument(isNode(node));
        runBatches = 0;
        runWritten = 0;
        runHeld = 0;
        TreeMap<Integer, List<int[]>> outputs = new TreeMap<>();
        need(node, outputs);
        for (int number : outputs.keySet()) {
            outputs.put(number, output(plan.get(number), outputs));
        }
        result = new ArrayList<>(outputs.get(node));
        result.sort(Comparator.comparing((int[] row) -> row, java.util.Arrays::compare));
        width = plan.get(node).width;
        batches = runBatches;
        written = runWritten;
        held = runHeld;
        return result.size();
    }

    int cell(int k, int c) {
        if (k < 0 || k >= result.size() || c < 0 || c >= width) {
            throw new IndexOutOfBoundsException();
        }
        return result.get(k)[c];
    }

    int rows() {
        return result.size();
    }

    int width() {
        return width;
    }

    int batches() {
        return batches;
    }

    int written() {
        return written;
    }

    int held() {
        return held;
    }

    int nodes() {
        return plan.size();
    }

    void clear(boolean alsoTables) {
        plan.clear();
        if (alsoTables) {
            tables.forEach(List::clear);
        }
    }

    private static void argument(boolean good) {
        if (!good) {
            throw new IllegalArgumentException();
        }
    }

    private static void state(boolean good) {
        if (!good) {
            throw new IllegalStateException();
        }
    }

    private boolean isNode(int node) {
        return node >= 0 && node < plan.size();
    }

    private boolean isColumn(int node, int column) {
        return isNode(node) && column >= 0 && column < plan.get(node).width;
    }

    private int add(Node node) {
        state(plan.size() < 12);
        plan.add(node);
        return plan.size() - 1;
    }

    private void need(int number, TreeMap<Integer, List<int[]>> outputs) {
        outputs.put(number, new ArrayList<>());
        Node node = plan.get(number);
        if (node.kind != 's') {
            need(node.first, outputs);
        }
        if (node.kind == 'j') {
            need(node.second, outputs);
        }
    }

    private List<int[]> output(Node node, TreeMap<Integer, List<int[]>> outputs) {
        List<int[]> input = read(node.kind == 's' ? tables.get(node.first) : outputs.get(node.first));
        List<int[]> output = new ArrayList<>();
        if (node.kind == 's') {
            output.addAll(input);
        } else if (node.kind == 'f') {
            input.stream().filter(row -> Integer.signum(Integer.compare(row[node.a], node.c)) == node.b - 1)
                    .forEach(output::add);
        } else if (node.kind == 'm') {
            input.forEach(row -> output.add(changed(row, node)));
        } else if (node.kind == 'j') {
            joinAt(0, input, read(outputs.get(node.second)), node, output);
            state(output.size() <= 128);
        } else {
            groupAt(0, input, node, output);
        }
        return output;
    }

    private List<int[]> read(List<int[]> input) {
        List<int[]> all = new ArrayList<>();
        for (int start = 0; start < input.size(); start += batch) {
            all.addAll(input.subList(start, Math.min(input.size(), start + batch)));
            runBatches++;
        }
        return all;
    }

    private static int[] changed(int[] row, Node node) {
        BigInteger x = BigInteger.valueOf(row[node.a]);
        BigInteger y = BigInteger.valueOf(row[node.c]);
        int[] copy = row.clone();
        copy[node.a] = (node.b == 0 ? x.add(y) : node.b == 1 ? x.subtract(y) : x.multiply(y)).intValueExact();
        return copy;
    }

    private static List<List<int[]>> parted(int level, List<int[]> input, int column) {
        List<List<int[]>> parts = new ArrayList<>();
        for (int p = 0; p < 4; p++) {
            parts.add(new ArrayList<>());
        }
        for (int[] row : input) {
            long product = (row[column] * 0x9E3779B1L) & 0xFFFFFFFFL;
            int high = (int) (product / (1L << (31 - 2 * level)) % 2);
            int low = (int) (product / (1L << (30 - 2 * level)) % 2);
            parts.get(2 * high + low).add(row);
        }
        return parts;
    }

    private void joinAt(int level, List<int[]> left, List<int[]> right, Node node, List<int[]> output) {
        if (left.isEmpty() || right.isEmpty()) {
            return;
        }
        if (right.size() <= memory || level == 3) {
            for (int start = 0; start < right.size(); start += memory) {
                List<int[]> holding = right.subList(start, Math.min(right.size(), start + memory));
                runHeld = Math.max(runHeld, holding.size());
                pair(left, holding, node, output);
            }
            return;
        }
        runWritten += left.size() + right.size();
        List<List<int[]>> lefts = parted(level, left, node.a);
        List<List<int[]>> rights = parted(level, right, node.b);
        for (int p = 0; p < 4; p++) {
            joinAt(level + 1, lefts.get(p), rights.get(p), node, output);
        }
    }

    private static void pair(List<int[]> left, List<int[]> right, Node node, List<int[]> output) {
        for (int[] l : left) {
            for (int[] r : right) {
                if (l[node.a] == r[node.b]) {
                    int[] both = java.util.Arrays.copyOf(l, l.length + r.length);
                    System.arraycopy(r, 0, both, l.length, r.length);
                    output.add(both);
                }
            }
        }
    }

    private void groupAt(int level, List<int[]> input, Node node, List<int[]> output) {
        if (input.isEmpty()) {
            return;
        }
        TreeMap<Integer, List<int[]>> groups = new TreeMap<>();
        for (int[] row : input) {
            groups.computeIfAbsent(row[node.a], key -> new ArrayList<>()).add(row);
        }
        if (groups.size() <= memory || level == 3) {
            runHeld = Math.max(runHeld, Math.min(memory, groups.size()));
            groups.forEach((key, rows) -> output.add(new int[] {key, rows.size(), sum(rows, node.b)}));
            return;
        }
        runWritten += input.size();
        for (List<int[]> part : parted(level, input, node.a)) {
            groupAt(level + 1, part, node, output);
        }
    }

    private static int sum(List<int[]> rows, int column) {
        BigInteger sum = BigInteger.ZERO;
        for (int[] row : rows) {
            sum = sum.add(BigInteger.valueOf(row[column]));
        }
        return sum.intValueExact();
    }
}
