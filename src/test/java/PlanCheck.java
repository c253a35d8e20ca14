/** What the tests of plans share: rows to begin with, and looks at what an object shows. */
class PlanCheck extends Check {
    static final Class<IllegalArgumentException> IAE = IllegalArgumentException.class;
    static final Class<IllegalStateException> ISE = IllegalStateException.class;
    static final Class<ArithmeticException> AE = ArithmeticException.class;
    static final Class<IndexOutOfBoundsException> IOOBE = IndexOutOfBoundsException.class;
    static final int MIN = Integer.MIN_VALUE;
    static final int MAX = Integer.MAX_VALUE;

    interface Maker {
        BatchPlans made();
    }

    interface Asked {
        long of(BatchPlans x);
    }

    /** Rows (1, 0, 0), (2, 1, 0), (3, 2, 0) and so on. */
    static void fill(BatchPlans x, int table, int rows) {
        for (int i = 0; i < rows; i++) {
            x.row(table, i + 1, i, 0);
        }
    }

    static void rowsOf(BatchPlans x, int table, int[]... rows) {
        for (int[] row : rows) {
            x.row(table, row[0], row[1], row[2]);
        }
    }

    /** A row (key, 0, 0) for each key. */
    static void keysOf(BatchPlans x, int table, int... keys) {
        for (int key : keys) {
            x.row(table, key, 0, 0);
        }
    }

    /** A join of the rows (7, i, second * i) of table 0 with the rows (7, j, j) of table 1; i < first, j < second. */
    static int pairs(BatchPlans x, int first, int second) {
        for (int i = 0; i < first; i++) {
            x.row(0, 7, i, second * i);
        }
        for (int j = 0; j < second; j++) {
            x.row(1, 7, j, j);
        }
        return x.join(x.scan(0), x.scan(1), 0, 0);
    }

    /** The pairs once more, with the different numbers 0 .. first * second - 1 in column 2. */
    static int numbered(BatchPlans x, int first, int second) {
        return x.map(pairs(x, first, second), 2, 0, 5);
    }

    static void dueRow(String what, BatchPlans x, int k, int... numbers) {
        for (int c = 0; c < numbers.length; c++) {
            int column = c;
            due(what + ", cell(" + k + ", " + c + ")", () -> x.cell(k, column), numbers[c]);
        }
    }

    static void dueRows(String what, BatchPlans x, int[]... rows) {
        due(what + ", rows", x::rows, rows.length);
        for (int k = 0; k < rows.length; k++) {
            dueRow(what, x, k, rows[k]);
        }
    }

    static void dueCosts(String what, BatchPlans x, int written, int held) {
        due(what + ", written", x::written, written);
        due(what + ", held", x::held, held);
    }

    static void dueResult(String what, BatchPlans x, int rows, int width, int batches, int written, int held) {
        due(what + ", rows", x::rows, rows);
        due(what + ", width", x::width, width);
        due(what + ", batches", x::batches, batches);
        dueCosts(what, x, written, held);
        dueThrows(what + ", cell before the first row", () -> x.cell(-1, 0), IOOBE);
        dueThrows(what + ", cell behind the last row", () -> x.cell(rows, 0), IOOBE);
        dueThrows(what + ", cell before the first column", () -> x.cell(0, -1), IOOBE);
        dueThrows(what + ", cell behind the last column", () -> x.cell(0, width), IOOBE);
    }

    /** A call that throws changes nothing: a twin that was not asked must show the same in everything. */
    static void dueRefused(String what, Maker maker, Asked call, Class<? extends RuntimeException> want) {
        BatchPlans asked = maker.made();
        BatchPlans twin = maker.made();
        dueThrows(what, () -> call.of(asked), want);
        note(what + ", and what is shown then", everything(asked), everything(twin));
    }

    static String result(BatchPlans x) {
        StringBuilder text = new StringBuilder();
        text.append(x.batches()).append(' ').append(x.written()).append(' ').append(x.held()).append(' ');
        int rows = x.rows();
        int width = x.width();
        text.append(rows).append('*').append(width);
        for (int k = 0; k < rows; k++) {
            text.append(" |");
            for (int c = 0; c < width; c++) {
                text.append(' ').append(x.cell(k, c));
            }
        }
        return text.toString();
    }

    /** The result, what each node and each table gives, and each table's rows; it spends the object. */
    static String everything(BatchPlans x) {
        StringBuilder text = new StringBuilder();
        int nodes = x.nodes();
        text.append("result ").append(result(x)).append(" nodes ").append(nodes);
        for (int n = 0; n < nodes; n++) {
            int node = n;
            text.append("\n  node ").append(n).append(' ').append(answerOf(() -> x.run(node)));
            text.append(' ').append(result(x));
        }
        x.clear(false);
        for (int t = 0; t < 3; t++) {
            int table = t;
            x.run(x.scan(t));
            text.append("\n  table ").append(t).append(' ').append(result(x));
            text.append(' ').append(answerOf(() -> x.row(table, 0, 0, 0)));
        }
        return text.toString();
    }
}
