/** Each promise of the document: ordinary inputs, the edges that it names, and wrong inputs. */
public final class PromisesTest {
    private static final Class<IllegalArgumentException> IAE = IllegalArgumentException.class;
    private static final Class<IllegalStateException> ISE = IllegalStateException.class;
    private static final Class<ArithmeticException> AE = ArithmeticException.class;
    private static final Class<IndexOutOfBoundsException> IOOBE = IndexOutOfBoundsException.class;
    private static final int MIN = Integer.MIN_VALUE;
    private static final int MAX = Integer.MAX_VALUE;

    public static void main(String[] args) {
        newObjectIsEmpty();
        batchAndMemoryAreBounded();
        rowAddsToItsTable();
        scanGivesTheRowsOfItsTable();
        filterTakesByItsTest();
        filterRefuses();
        mapChangesExactly();
        mapRefuses();
        joinPairsEqualNumbers();
        joinRefuses();
        groupCountsAndSums();
        groupRefuses();
        runWorksOutOnlyWhatItNeeds();
        runFailsByTheFirstNode();
        runThatFailsChangesNothing();
        cellRefuses();
        resultIsInOrder();
        batchesAreCounted();
        joinWritesAndHolds();
        groupWritesAndHolds();
        partsTakeTheBitsOfTheirLevel();
        heldIsTheMostOfAll();
        nodesAreAtMostTwelve();
        clearKeepsTheResult();
        Check.end();
    }

    private static void newObjectIsEmpty() {
        BatchPlans x = new BatchPlans(4, 4);
        String p = "1 new: ";
        Check.due(p + "rows", x::rows, 0);
        Check.due(p + "width", x::width, 0);
        Check.due(p + "batches", x::batches, 0);
        Check.due(p + "written", x::written, 0);
        Check.due(p + "held", x::held, 0);
        Check.due(p + "nodes", x::nodes, 0);
        Check.dueThrows(p + "cell", () -> x.cell(0, 0), IOOBE);
        Check.dueThrows(p + "run", () -> x.run(0), IAE);
        for (int t = 0; t < 3; t++) {
            int table = t;
            Check.due(p + "scan " + t, () -> x.run(x.scan(table)), 0);
            Check.due(p + "width of no rows", x::width, 3);
            Check.due(p + "batches of no rows", x::batches, 0);
        }
    }

    private static void batchAndMemoryAreBounded() {
        int[] given = {MIN, -1, 0, 1, 2, 15, 16, 17, MAX};
        int[] batches = {16, 16, 16, 16, 8, 2, 1, 1, 1};
        for (int i = 0; i < given.length; i++) {
            BatchPlans x = new BatchPlans(given[i], 1);
            fill(x, 0, 16);
            x.run(x.scan(0));
            Check.due("1 batch " + given[i], x::batches, batches[i]);
        }
        for (int batch : new int[] {16, 17, MAX}) {
            BatchPlans x = new BatchPlans(batch, 64);
            int filter = x.filter(hundredPairs(x), 0, 2, 0);
            Check.due("1 run", () -> x.run(filter), 100);
            Check.due("1 100 rows by " + batch, x::batches, 3 + 7);
        }
        int[] memories = {MIN, 0, 1, 2, 63, 64, 65, MAX};
        int[] held = {1, 1, 1, 2, 63, 64, 64, 64};
        for (int i = 0; i < memories.length; i++) {
            BatchPlans x = new BatchPlans(1, memories[i]);
            x.run(hundredSameKeys(x));
            Check.due("1 memory " + memories[i], x::held, held[i]);
        }
    }

    /** A join of ten rows with themselves: 7, i, 10i, 7, j, 10j. */
    private static int hundredPairs(BatchPlans x) {
        for (int i = 0; i < 10; i++) {
            x.row(0, 7, i, 10 * i);
        }
        int ten = x.scan(0);
        return x.join(ten, ten, 0, 0);
    }

    /** A join of one row with 100 groups of one row each, by their counts: a right side of 100 times one key. */
    private static int hundredSameKeys(BatchPlans x) {
        x.row(1, 1, 0, 0);
        int different = x.map(hundredPairs(x), 2, 0, 4);
        return x.join(x.scan(1), x.group(different, 2, 0), 0, 1);
    }

    private static void rowAddsToItsTable() {
        BatchPlans x = new BatchPlans(1, 1);
        for (int t = 0; t < 3; t++) {
            int table = t;
            for (int i = 1; i <= 16; i++) {
                int number = i;
                Check.due("2 row", () -> x.row(table, number, MIN, MAX), i);
            }
            Check.dueThrows("2 row 17", () -> x.row(table, 1, 1, 1), ISE);
        }
        for (int wrong : new int[] {MIN, -1, 3, MAX}) {
            Check.dueThrows("2 row of table " + wrong, () -> x.row(wrong, 1, 1, 1), IAE);
        }
        Check.due("2 rows still there", () -> x.run(x.scan(2)), 16);
        dueRow("2 last row", x, 15, 16, MIN, MAX);
    }

    private static void scanGivesTheRowsOfItsTable() {
        BatchPlans x = new BatchPlans(1, 1);
        x.row(1, 5, 6, 7);
        x.row(1, 5, 6, 7);
        x.row(2, -1, -2, -3);
        Check.due("3 scan", () -> x.scan(1), 0);
        Check.due("3 scan", () -> x.scan(2), 1);
        Check.due("3 scan", () -> x.scan(0), 2);
        Check.due("3 run 0", () -> x.run(0), 2);
        dueRow("3 row", x, 0, 5, 6, 7);
        dueRow("3 the same row again", x, 1, 5, 6, 7);
        Check.due("3 run 1", () -> x.run(1), 1);
        dueRow("3 row", x, 0, -1, -2, -3);
        Check.due("3 run 2", () -> x.run(2), 0);
        x.row(1, 4, 0, 0);
        Check.due("3 the row that came after the scan", () -> x.run(0), 3);
        for (int wrong : new int[] {MIN, -1, 3, MAX}) {
            Check.dueThrows("3 scan of table " + wrong, () -> x.scan(wrong), IAE);
        }
        Check.due("3 nodes", x::nodes, 3);
    }

    private static void filterTakesByItsTest() {
        BatchPlans x = new BatchPlans(1, 1);
        x.row(0, MIN, 0, 1);
        x.row(0, -1, 5, 1);
        x.row(0, 5, -1, 2);
        x.row(0, 5, 3, 2);
        x.row(0, MAX, 4, 3);
        x.scan(0);
        int[][] asked = {{0, 0, 5, 2}, {0, 1, 5, 2}, {0, 2, 5, 1}, {0, 0, MIN, 0}, {0, 2, MAX, 0},
            {0, 2, MIN, 4}, {0, 0, MAX, 4}, {1, 1, 5, 1}, {2, 2, 1, 3}, {2, 0, 2, 2}};
        for (int[] ask : asked) {
            int node = x.filter(0, ask[0], ask[1], ask[2]);
            Check.due("4 filter by " + ask[0] + " " + ask[1] + " " + ask[2], () -> x.run(node), ask[3]);
            Check.due("4 width", x::width, 3);
        }
        x.run(2);
        dueRow("4 whole rows", x, 0, 5, -1, 2);
        dueRow("4 whole rows", x, 1, 5, 3, 2);
    }

    private static void filterRefuses() {
        BatchPlans x = new BatchPlans(1, 1);
        Check.dueThrows("4 no node", () -> x.filter(0, 0, 0, 0), IAE);
        x.scan(0);
        for (int wrong : new int[] {MIN, -1, 3, MAX}) {
            Check.dueThrows("4 column " + wrong, () -> x.filter(0, wrong, 0, 0), IAE);
            Check.dueThrows("4 test " + wrong, () -> x.filter(0, 0, wrong, 0), IAE);
        }
        for (int wrong : new int[] {MIN, -1, 1, MAX}) {
            Check.dueThrows("4 node " + wrong, () -> x.filter(wrong, 0, 0, 0), IAE);
        }
        Check.due("4 nodes", x::nodes, 1);
        x.join(0, 0, 0, 0);
        Check.due("4 column 5 of a join", () -> x.filter(1, 5, 0, 0), 2);
        Check.dueThrows("4 column 6 of a join", () -> x.filter(1, 6, 0, 0), IAE);
    }

    private static void mapChangesExactly() {
        BatchPlans x = new BatchPlans(1, 1);
        x.row(0, 7, 3, -4);
        x.scan(0);
        int[][] asked = {{0, 0, 1, 10}, {0, 1, 1, 4}, {0, 2, 1, 21}, {2, 1, 0, -11}, {2, 2, 2, 16},
            {1, 1, 1, 0}, {1, 0, 1, 6}};
        for (int[] ask : asked) {
            int node = x.map(0, ask[0], ask[1], ask[2]);
            x.run(node);
            int[] want = {7, 3, -4};
            want[ask[0]] = ask[3];
            dueRow("5 map " + ask[0] + " " + ask[1] + " " + ask[2], x, 0, want);
        }
        x.run(0);
        dueRow("5 the node itself stays", x, 0, 7, 3, -4);
        dueMap(MAX, 0, 1, "throws");
        dueMap(MAX, 0, 0, "2147483647");
        dueMap(MIN, 0, -1, "throws");
        dueMap(MIN, 1, 1, "throws");
        dueMap(MIN, 1, MIN, "0");
        dueMap(0, 1, MIN, "throws");
        dueMap(-1, 1, MIN, "2147483647");
        dueMap(MIN, 2, -1, "throws");
        dueMap(MIN, 2, 1, "-2147483648");
        dueMap(65536, 2, 32768, "throws");
        dueMap(65536, 2, -32768, "-2147483648");
        dueMap(65536, 2, 65536, "throws");
        dueMap(MIN, 2, MIN, "throws");
    }

    private static void dueMap(int a, int operation, int b, String want) {
        BatchPlans x = new BatchPlans(1, 1);
        x.row(0, a, b, 0);
        x.map(x.scan(0), 0, operation, 1);
        String what = "5 map of " + a + " and " + b + " by " + operation;
        if (want.equals("throws")) {
            Check.dueThrows(what, () -> x.run(1), AE);
        } else {
            Check.due(what, () -> x.run(1), 1);
            Check.note(what, Check.answerOf(() -> x.cell(0, 0)), want);
        }
    }

    private static void mapRefuses() {
        BatchPlans x = new BatchPlans(1, 1);
        Check.dueThrows("5 no node", () -> x.map(0, 0, 0, 0), IAE);
        x.scan(0);
        for (int wrong : new int[] {MIN, -1, 3, MAX}) {
            Check.dueThrows("5 column " + wrong, () -> x.map(0, wrong, 0, 0), IAE);
            Check.dueThrows("5 operation " + wrong, () -> x.map(0, 0, wrong, 0), IAE);
            Check.dueThrows("5 other " + wrong, () -> x.map(0, 0, 0, wrong), IAE);
        }
        Check.dueThrows("5 node 1", () -> x.map(1, 0, 0, 0), IAE);
        Check.dueThrows("5 node -1", () -> x.map(-1, 0, 0, 0), IAE);
        Check.due("5 nodes", x::nodes, 1);
        x.join(0, 0, 0, 0);
        Check.due("5 columns of a join", () -> x.map(1, 5, 2, 5), 2);
        Check.dueThrows("5 column 6 of a join", () -> x.map(1, 0, 0, 6), IAE);
    }

    private static void joinPairsEqualNumbers() {
        BatchPlans x = new BatchPlans(1, 64);
        x.row(0, 1, 2, 3);
        x.row(0, 4, 2, 6);
        x.row(0, 7, 8, 9);
        x.row(1, 13, 14, 2);
        x.row(1, 10, 11, 2);
        x.row(1, 16, 17, 9);
        x.scan(0);
        x.scan(1);
        Check.due("6 join", () -> x.join(0, 1, 1, 2), 2);
        Check.due("6 run", () -> x.run(2), 4);
        Check.due("6 width", x::width, 6);
        dueRow("6 row", x, 0, 1, 2, 3, 10, 11, 2);
        dueRow("6 row", x, 1, 1, 2, 3, 13, 14, 2);
        dueRow("6 row", x, 2, 4, 2, 6, 10, 11, 2);
        dueRow("6 row", x, 3, 4, 2, 6, 13, 14, 2);
        Check.due("6 with itself", () -> x.join(0, 0, 1, 1), 3);
        Check.due("6 run", () -> x.run(3), 5);
        Check.due("6 right first", () -> x.join(1, 0, 2, 2), 4);
        Check.due("6 run", () -> x.run(4), 1);
        dueRow("6 row", x, 0, 16, 17, 9, 7, 8, 9);
        Check.due("6 nothing equal", () -> x.run(x.join(0, 1, 0, 0)), 0);
        Check.due("6 width of nothing", x::width, 6);
        joinIsAtMost128Rows();
    }

    private static void joinIsAtMost128Rows() {
        BatchPlans x = new BatchPlans(16, 3);
        for (int i = 0; i < 8; i++) {
            x.row(0, 1, i, 0);
            x.row(1, 1, 0, i);
            x.row(1, 1, 1, i);
        }
        x.join(x.scan(0), x.scan(1), 0, 0);
        Check.due("6 128 rows", () -> x.run(2), 128);
        dueRow("6 row 127", x, 127, 1, 7, 0, 1, 1, 7);
        x.row(0, 2, 0, 0);
        Check.due("6 128 rows and one that has no pair", () -> x.run(2), 128);
        x.row(0, 1, 0, 0);
        Check.dueThrows("6 144 rows", () -> x.run(2), ISE);
        x.clear(true);
        for (int i = 0; i < 15; i++) {
            x.row(0, i < 11 ? 1 : 2, i, 0);
            x.row(1, i < 11 ? 1 : i < 13 ? 2 : 3, i, 0);
        }
        x.join(x.scan(0), x.scan(1), 0, 0);
        Check.dueThrows("6 11 * 11 + 4 * 2 = 129 rows", () -> x.run(2), ISE);
    }

    private static void joinRefuses() {
        BatchPlans x = new BatchPlans(1, 1);
        Check.dueThrows("6 no node", () -> x.join(0, 0, 0, 0), IAE);
        x.scan(0);
        for (int wrong : new int[] {MIN, -1, 3, MAX}) {
            Check.dueThrows("6 left " + wrong, () -> x.join(wrong, 0, 0, 0), IAE);
            Check.dueThrows("6 right " + wrong, () -> x.join(0, wrong, 0, 0), IAE);
            Check.dueThrows("6 left column " + wrong, () -> x.join(0, 0, wrong, 0), IAE);
            Check.dueThrows("6 right column " + wrong, () -> x.join(0, 0, 0, wrong), IAE);
        }
        Check.due("6 six columns", () -> x.join(0, 0, 0, 0), 1);
        Check.dueThrows("6 nine columns", () -> x.join(1, 0, 5, 0), ISE);
        Check.dueThrows("6 nine columns", () -> x.join(0, 1, 0, 5), ISE);
        Check.dueThrows("6 twelve columns", () -> x.join(1, 1, 0, 0), ISE);
        Check.dueThrows("6 nine columns and no such column", () -> x.join(1, 0, 6, 0), IAE);
        Check.dueThrows("6 nine columns and no such column", () -> x.join(1, 0, 0, 3), IAE);
        Check.due("6 nodes", x::nodes, 2);
        x.group(1, 3, 4);
        Check.due("6 a group has three", () -> x.join(2, 0, 0, 0), 3);
    }

    private static void groupCountsAndSums() {
        BatchPlans x = new BatchPlans(1, 1);
        x.row(0, 5, MAX, 1);
        x.row(0, -5, 4, 1);
        x.row(0, 5, MAX, 2);
        x.row(0, 5, MIN, 2);
        x.row(0, 9, MIN, 2);
        x.scan(0);
        Check.due("7 group", () -> x.group(0, 0, 1), 1);
        Check.due("7 the whole sum is an int, sums on the way are not", () -> x.run(1), 3);
        Check.due("7 width", x::width, 3);
        dueRow("7 row", x, 0, -5, 1, 4);
        dueRow("7 row", x, 1, 5, 3, MAX - 1);
        dueRow("7 row", x, 2, 9, 1, MIN);
        Check.due("7 key and value the same", () -> x.run(x.group(0, 0, 0)), 3);
        dueRow("7 row", x, 1, 5, 3, 15);
        x.row(0, 9, -1, 2);
        Check.dueThrows("7 less than every int", () -> x.run(1), AE);
        x.row(0, 9, 1, 2);
        Check.due("7 back at the least int", () -> x.run(1), 3);
        x.row(0, -5, MAX - 4, 2);
        Check.due("7 the greatest int", () -> x.run(1), 3);
        dueRow("7 row", x, 0, -5, 2, MAX);
        x.row(0, -5, 1, 2);
        Check.dueThrows("7 greater than every int", () -> x.run(1), AE);
        Check.due("7 of no rows", () -> x.run(x.group(x.scan(1), 0, 0)), 0);
        Check.due("7 of a join", () -> x.run(x.group(x.join(0, 0, 1, 1), 5, 3)), 2);
        Check.due("7 width of a group of six columns", x::width, 3);
    }

    private static void groupRefuses() {
        BatchPlans x = new BatchPlans(1, 1);
        Check.dueThrows("7 no node", () -> x.group(0, 0, 0), IAE);
        x.scan(0);
        for (int wrong : new int[] {MIN, -1, 3, MAX}) {
            Check.dueThrows("7 node " + wrong, () -> x.group(wrong, 0, 0), IAE);
            Check.dueThrows("7 key " + wrong, () -> x.group(0, wrong, 0), IAE);
            Check.dueThrows("7 value " + wrong, () -> x.group(0, 0, wrong), IAE);
        }
        Check.due("7 nodes", x::nodes, 1);
    }

    private static void runWorksOutOnlyWhatItNeeds() {
        BatchPlans x = new BatchPlans(1, 1);
        x.row(0, MAX, 1, 1);
        x.scan(0);
        x.map(0, 0, 0, 1);
        x.filter(0, 0, 2, 0);
        x.group(2, 0, 0);
        Check.due("8 a node that would fail is not needed", () -> x.run(3), 1);
        Check.due("8 batches of 0, 2 and 3", x::batches, 3);
        x.join(2, 2, 0, 0);
        Check.due("8 a node twice", () -> x.run(4), 1);
        Check.due("8 is worked out once and read twice", x::batches, 4);
        for (int wrong : new int[] {MIN, -1, 5, 12, MAX}) {
            Check.dueThrows("8 run " + wrong, () -> x.run(wrong), IAE);
        }
    }

    private static void runFailsByTheFirstNode() {
        BatchPlans x = new BatchPlans(16, 16);
        for (int i = 0; i < 12; i++) {
            x.row(0, 1, MAX, i);
        }
        x.scan(0);
        x.join(0, 0, 0, 0);
        x.map(0, 1, 0, 0);
        x.join(0, 0, 0, 0);
        x.group(0, 0, 1);
        x.join(2, 4, 0, 0);
        Check.dueThrows("8 a join", () -> x.run(1), ISE);
        Check.dueThrows("8 a map", () -> x.run(2), AE);
        Check.dueThrows("8 a group", () -> x.run(4), AE);
        Check.dueThrows("8 map and group", () -> x.run(5), AE);
        x.group(1, 0, 1);
        Check.dueThrows("8 the join before the group", () -> x.run(6), ISE);
        x.join(6, 2, 0, 0);
        Check.dueThrows("8 node 1 comes before node 2", () -> x.run(7), ISE);
        x.group(3, 0, 0);
        x.join(2, 8, 0, 0);
        Check.dueThrows("8 node 2 comes before node 3", () -> x.run(9), AE);
        x.join(8, 2, 0, 0);
        Check.dueThrows("8 the number decides, not the side", () -> x.run(10), AE);
    }

    private static void runThatFailsChangesNothing() {
        BatchPlans x = new BatchPlans(2, 1);
        x.row(0, 1, 2, 3);
        x.row(0, 4, 5, 6);
        x.row(0, 7, MAX, 6);
        x.group(x.scan(0), 0, 1);
        x.run(1);
        x.map(0, 1, 0, 0);
        x.join(1, 2, 0, 0);
        dueFirstGroups(x);
        Check.dueThrows("8 a map fails behind a group", () -> x.run(3), AE);
        dueFirstGroups(x);
        for (int i = 0; i < 12; i++) {
            x.row(1, 1, 2, 3);
        }
        x.scan(1);
        x.join(4, 4, 0, 0);
        Check.dueThrows("8 a join fails", () -> x.run(5), ISE);
        dueFirstGroups(x);
        Check.dueThrows("8 no such node", () -> x.run(6), IAE);
        dueFirstGroups(x);
        Check.due("15 nodes", x::nodes, 6);
        Check.due("8 and runs go on", () -> x.run(4), 12);
    }

    private static void dueFirstGroups(BatchPlans x) {
        Check.due("10 rows", x::rows, 3);
        Check.due("11 width", x::width, 3);
        Check.due("12 batches", x::batches, 4);
        // 1 is in part 2, but 4 and 7 are both in part 1, so these are written once more.
        dueCosts("13 14", x, 5, 1);
        dueRow("9 row", x, 0, 1, 1, 2);
        dueRow("9 row", x, 2, 7, 1, MAX);
    }

    private static void cellRefuses() {
        BatchPlans x = new BatchPlans(2, 1);
        x.row(0, 1, 2, 3);
        x.row(0, 4, 5, 6);
        x.run(x.scan(0));
        for (int wrong : new int[] {MIN, -1, 2, MAX}) {
            Check.dueThrows("9 row " + wrong, () -> x.cell(wrong, 0), IOOBE);
        }
        for (int wrong : new int[] {MIN, -1, 3, MAX}) {
            Check.dueThrows("9 column " + wrong, () -> x.cell(0, wrong), IOOBE);
        }
        Check.due("9 last cell", () -> x.cell(1, 2), 6);
        x.run(x.filter(0, 0, 0, MIN));
        Check.dueThrows("9 of no rows", () -> x.cell(0, 0), IOOBE);
        Check.due("10 no rows", x::rows, 0);
        Check.due("11 but columns", x::width, 3);
    }

    private static void resultIsInOrder() {
        BatchPlans x = new BatchPlans(2, 1);
        int[][] given = {{3, 0, 0}, {MAX, 1, 1}, {MIN, 9, 9}, {3, -1, 5}, {3, 0, -7}, {-1, 0, 0}, {3, 0, 0}};
        for (int[] row : given) {
            x.row(0, row[0], row[1], row[2]);
        }
        Check.due("8 run", () -> x.run(x.scan(0)), 7);
        Check.due("10 rows", x::rows, 7);
        int[][] want = {{MIN, 9, 9}, {-1, 0, 0}, {3, -1, 5}, {3, 0, -7}, {3, 0, 0}, {3, 0, 0}, {MAX, 1, 1}};
        for (int k = 0; k < want.length; k++) {
            dueRow("8 order", x, k, want[k]);
        }
        x.row(0, MIN, 0, 0);
        Check.due("10 a new row is not in the result", x::rows, 7);
        dueRow("9 nor at its front", x, 0, MIN, 9, 9);
    }

    private static void batchesAreCounted() {
        BatchPlans x = new BatchPlans(4, 64);
        fill(x, 0, 9);
        fill(x, 1, 8);
        x.scan(0);
        x.run(0);
        Check.due("12 9 rows by 4", x::batches, 3);
        x.scan(1);
        x.run(1);
        Check.due("12 8 rows by 4", x::batches, 2);
        x.scan(2);
        x.run(2);
        Check.due("12 no rows", x::batches, 0);
        x.filter(0, 0, 0, 6);
        x.run(3);
        Check.due("12 filter reads all", x::batches, 6);
        x.map(3, 0, 0, 0);
        x.run(4);
        Check.due("12 map reads the five that are left", x::batches, 8);
        x.join(4, 1, 1, 1);
        x.run(5);
        Check.due("12 join reads both", x::batches, 14);
        x.group(5, 0, 0);
        x.run(6);
        Check.due("12 group reads five", x::batches, 16);
        x.join(0, 0, 0, 0);
        x.run(7);
        Check.due("12 join with itself reads twice", x::batches, 9);
        x.join(2, 1, 0, 0);
        x.run(8);
        Check.due("12 join with nothing reads the other", x::batches, 4);
    }

    private static void joinWritesAndHolds() {
        BatchPlans x = new BatchPlans(1, 2);
        // The top two bits of the products of 1, 2, 3 and 4 are 2, 0, 3 and 1.
        fill(x, 0, 5);
        x.row(1, 1, 0, 0);
        x.row(1, 2, 0, 0);
        x.scan(0);
        x.scan(1);
        x.join(0, 1, 0, 0);
        x.run(2);
        dueCosts("13 14 right fits", x, 0, 2);
        x.row(1, 3, 0, 0);
        x.run(2);
        dueCosts("13 14 right does not fit", x, 8, 1);
        x.join(1, 0, 0, 0);
        x.run(3);
        dueCosts("13 14 the other way round", x, 8, 2);
        x.scan(2);
        x.join(4, 0, 0, 0);
        x.run(5);
        dueCosts("13 14 no left rows", x, 0, 0);
        x.join(0, 4, 0, 0);
        x.run(6);
        dueCosts("13 14 no right rows", x, 0, 0);
        x.row(2, 9, 7, 0);
        x.run(5);
        dueCosts("13 14 what is held need not have a pair", x, 6, 1);
        joinOfOneKeyGoesDownToLevelThree();
    }

    private static void joinOfOneKeyGoesDownToLevelThree() {
        BatchPlans x = new BatchPlans(1, 2);
        x.row(0, 8, 0, 0);
        for (int i = 0; i < 5; i++) {
            x.row(1, 8, i, 0);
        }
        x.join(x.scan(0), x.scan(1), 0, 0);
        Check.due("13 14 run", () -> x.run(2), 5);
        dueCosts("13 14 one key", x, 18, 2);
    }

    private static void groupWritesAndHolds() {
        BatchPlans x = new BatchPlans(1, 2);
        x.row(0, 1, 0, 0);
        x.row(0, 1, 1, 0);
        x.row(0, 1, 2, 0);
        x.scan(0);
        x.group(0, 0, 0);
        x.run(1);
        dueCosts("13 14 one key", x, 0, 1);
        x.row(0, 2, 3, 0);
        x.run(1);
        dueCosts("13 14 two keys fit", x, 0, 2);
        x.row(0, 3, 4, 0);
        x.run(1);
        dueCosts("13 14 three keys do not", x, 5, 1);
        x.group(x.scan(1), 0, 0);
        x.run(3);
        dueCosts("13 14 no rows", x, 0, 0);
        x.run(0);
        dueCosts("13 14 a scan alone", x, 0, 0);
    }

    /** Bits 31 .. 26 of the products: of 0, 34 and 89 00 00 00, of 13 00 00 10, of 68 00 00 01, of 2 00 11 11. */
    private static void partsTakeTheBitsOfTheirLevel() {
        dueGroupOfTwo("bits 30 and 31", 0, 1, 3);
        dueGroupOfTwo("bits 28 and 29", 0, 2, 6);
        dueGroupOfTwo("bits 26 and 27", 0, 13, 9);
        dueGroupOfTwo("the last digit of the factor", 0, 1 << 28, 6);
        dueKeysOfTwo("0 and 13 stay together behind level 1", 6, 2, 0, 13, 2);
        dueKeysOfTwo("all are parted at level 2", 9, 1, 0, 13, 68);
        dueKeysOfTwo("none is parted at all", 9, 2, 0, 34, 89);
        dueKeysOfTwo("-1 and 4 are in part 1", 4, 2, -1, 4, 1, 2);
    }

    /** A group by different keys, and a join of a table with itself, with M = 2. */
    private static void dueKeysOfTwo(String what, int written, int held, int... keys) {
        BatchPlans x = new BatchPlans(1, 2);
        for (int key : keys) {
            x.row(0, 0, key, 0);
        }
        x.scan(0);
        x.group(0, 1, 0);
        x.join(0, 0, 1, 1);
        Check.due("13 14 group: " + what, () -> x.run(1), keys.length);
        dueCosts("13 14 group: " + what, x, written, held);
        Check.due("13 14 join: " + what, () -> x.run(2), keys.length);
        dueCosts("13 14 join: " + what, x, 2 * written, held);
    }

    private static void dueGroupOfTwo(String what, int first, int second, int written) {
        BatchPlans x = new BatchPlans(1, 1);
        x.row(0, first, 0, 0);
        x.row(0, second, 0, 0);
        x.row(0, second, 0, 0);
        x.group(x.scan(0), 0, 1);
        Check.due("13 " + what, () -> x.run(1), 2);
        dueCosts("13 14 " + what, x, written, 1);
    }

    private static void heldIsTheMostOfAll() {
        BatchPlans x = new BatchPlans(1, 9);
        fill(x, 0, 6);
        fill(x, 1, 4);
        x.scan(0);
        x.scan(1);
        x.join(0, 1, 0, 0);
        x.group(2, 0, 0);
        x.filter(3, 0, 0, 3);
        x.join(1, 0, 0, 0);
        x.run(4);
        dueCosts("14 join 4, group 4", x, 0, 4);
        x.group(0, 0, 0);
        x.join(4, 6, 0, 0);
        x.run(7);
        dueCosts("14 group 6", x, 0, 6);
        x.run(5);
        dueCosts("14 the right one is held", x, 0, 6);
        x.run(1);
        dueCosts("14 each run anew", x, 0, 0);
    }

    private static void nodesAreAtMostTwelve() {
        BatchPlans x = new BatchPlans(1, 1);
        x.row(0, 1, 2, 3);
        for (int n = 0; n < 12; n++) {
            int node = n;
            Check.due("15 nodes", x::nodes, node);
            Check.due("15 node " + n, () -> node == 0 ? x.scan(0) : x.map(node - 1, 0, 0, 1), node);
        }
        Check.due("15 nodes", x::nodes, 12);
        Check.dueThrows("3 thirteenth", () -> x.scan(0), ISE);
        Check.dueThrows("4 thirteenth", () -> x.filter(0, 0, 0, 0), ISE);
        Check.dueThrows("5 thirteenth", () -> x.map(0, 0, 0, 0), ISE);
        Check.dueThrows("6 thirteenth", () -> x.join(0, 0, 0, 0), ISE);
        Check.dueThrows("7 thirteenth", () -> x.group(0, 0, 0), ISE);
        Check.dueThrows("3 thirteenth, wrong table", () -> x.scan(3), IAE);
        Check.dueThrows("4 thirteenth, wrong test", () -> x.filter(0, 0, 3, 0), IAE);
        Check.dueThrows("5 thirteenth, wrong column", () -> x.map(0, 0, 0, 3), IAE);
        Check.dueThrows("6 thirteenth, wrong node", () -> x.join(0, 12, 0, 0), IAE);
        Check.dueThrows("7 thirteenth, wrong column", () -> x.group(0, 0, -1), IAE);
        Check.due("15 nodes", x::nodes, 12);
        Check.due("8 run of the last", () -> x.run(11), 1);
        dueRow("8 row", x, 0, 23, 2, 3);
    }

    private static void clearKeepsTheResult() {
        BatchPlans x = new BatchPlans(1, 1);
        fill(x, 0, 3);
        fill(x, 2, 16);
        x.join(x.scan(0), x.scan(0), 0, 0);
        x.run(2);
        for (int again = 0; again < 2; again++) {
            x.clear(again == 1);
            Check.due("16 nodes", x::nodes, 0);
            Check.due("16 rows", x::rows, 3);
            Check.due("16 width", x::width, 6);
            Check.due("16 batches", x::batches, 12);
            dueCosts("16", x, 6, 1);
            dueRow("16 row", x, 2, 3, 2, 0, 3, 2, 0);
            Check.dueThrows("16 run", () -> x.run(0), IAE);
        }
        Check.due("16 numbers start anew", () -> x.scan(0), 0);
        Check.due("16 tables are empty", () -> x.run(0), 0);
        Check.due("16 another table too", () -> x.row(2, 1, 1, 1), 1);
        x.clear(false);
        Check.due("16 rows stay", () -> x.row(2, 1, 1, 1), 2);
        Check.due("16 rows stay", () -> x.run(x.scan(2)), 2);
    }

    /** Rows (1, 0, 0), (2, 1, 0), (3, 2, 0) and so on. */
    private static void fill(BatchPlans x, int table, int rows) {
        for (int i = 0; i < rows; i++) {
            x.row(table, i + 1, i, 0);
        }
    }

    private static void dueRow(String what, BatchPlans x, int k, int... numbers) {
        for (int c = 0; c < numbers.length; c++) {
            int column = c;
            Check.due(what + ", cell(" + k + ", " + c + ")", () -> x.cell(k, column), numbers[c]);
        }
    }

    private static void dueCosts(String what, BatchPlans x, int written, int held) {
        Check.due(what + ", written", x::written, written);
        Check.due(what + ", held", x::held, held);
    }
}
