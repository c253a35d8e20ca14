/** Tables, nodes, runs and the result: every sentence of the terms that names an edge has a method of its own. */
public final class TermsTest extends PlanCheck {
    private static final int PLUS = 0;
    private static final int MINUS = 1;
    private static final int TIMES = 2;

    public static void main(String[] args) {
        tablesHoldSixteenRowsOfThreeInts();
        columnsAreNumberedFromZero();
        nodesAreNumberedAsTheyAreMade();
        widthIsThreeOrSix();
        theSameRowMayBeThereSeveralTimes();
        scanGivesTheRowsAsTheyAreInTheRun();
        filterIsLessEqualOrGreater();
        mapIsPlusMinusOrTimes();
        mapOfAColumnWithItself();
        joinHasTheLeftColumnsAndThenTheRightOnes();
        joinOfANodeWithItself();
        groupHasARowForEachDifferentKey();
        groupOfOneColumnAsKeyAndValue();
        runWorksOutEachNodeOnce();
        runWorksOutNoOtherNode();
        mapFailsWhenANumberIsNoInt();
        mapFailsByAnyRow();
        groupFailsWhenASumIsNoInt();
        groupDoesNotFailOnTheWay();
        joinFailsBeyond128Rows();
        resultIsInOrder();
        resultIsInOrderByEachColumn();
        end();
    }

    /** "TABLES are 0 .. 2, each with at most 16 ROWS of three numbers (ints)." */
    private static void tablesHoldSixteenRowsOfThreeInts() {
        for (int t = 0; t < 3; t++) {
            int table = t;
            BatchPlans x = new BatchPlans(1, 1);
            for (int i = 1; i <= 16; i++) {
                int number = i;
                due("2 row " + i + " of table " + t, () -> x.row(table, MIN, number, MAX), i);
            }
            dueThrows("2 row 17 of table " + t, () -> x.row(table, 0, 0, 0), ISE);
            for (int other = 0; other < 3; other++) {
                int scanned = other;
                due("2 rows of table " + other, () -> x.run(x.scan(scanned)), other == t ? 16 : 0);
            }
            x.run(t);
            dueRow("2 first row of table " + t, x, 0, MIN, 1, MAX);
            dueRow("2 last row of table " + t, x, 15, MIN, 16, MAX);
        }
    }

    /** "A row's COLUMNS are numbered from 0." */
    private static void columnsAreNumberedFromZero() {
        BatchPlans x = new BatchPlans(1, 1);
        x.row(0, 10, 11, 12);
        x.scan(0);
        for (int c = 0; c < 3; c++) {
            int column = c;
            int found = x.filter(0, c, 1, 10 + c);
            due("4 filter by column " + c, () -> x.run(found), 1);
            int missed = x.filter(0, c, 1, 10 + (c + 1) % 3);
            due("4 another column's number in " + c, () -> x.run(missed), 0);
            x.run(x.group(0, c, (c + 1) % 3));
            dueRow("7 group by column " + c, x, 0, 10 + c, 1, 10 + (c + 1) % 3);
            x.run(0);
            due("9 cell of column " + c, () -> x.cell(0, column), 10 + c);
        }
    }

    /** "The NODES of a plan are numbered 0, 1, .. as they are made, at most 12" */
    private static void nodesAreNumberedAsTheyAreMade() {
        Asked[] kinds = {x -> x.scan(0), x -> x.filter(0, 0, 0, 0), x -> x.map(0, 0, 0, 0), x -> x.join(0, 0, 0, 0),
            x -> x.group(0, 0, 0)};
        for (int last = 0; last < kinds.length; last++) {
            Asked twelfth = kinds[last];
            BatchPlans x = new BatchPlans(1, 1);
            for (int n = 0; n < 11; n++) {
                Asked next = kinds[n % kinds.length];
                due("15 nodes", x::nodes, n);
                due("3 to 7 node " + n, () -> next.of(x), n);
            }
            due("3 to 7 twelfth node of kind " + last, () -> twelfth.of(x), 11);
            for (int k = 0; k < kinds.length; k++) {
                Asked thirteenth = kinds[k];
                dueThrows("3 to 7 thirteenth node of kind " + k, () -> thirteenth.of(x), ISE);
            }
            due("15 nodes", x::nodes, 12);
            due("8 the twelfth node", () -> x.run(11), 0);
        }
    }

    /** "each has a WIDTH (how many columns its rows have, at most 6)" */
    private static void widthIsThreeOrSix() {
        for (int rows = 0; rows < 2; rows++) {
            BatchPlans x = new BatchPlans(1, 1);
            fill(x, 0, rows);
            int scan = x.scan(0);
            int join = x.join(scan, scan, 0, 0);
            int[][] asked = {{scan, 3}, {x.filter(scan, 2, 2, MIN), 3}, {x.map(scan, 2, 0, 2), 3},
                {x.group(scan, 2, 2), 3}, {join, 6}, {x.filter(join, 5, 2, MIN), 6}, {x.map(join, 5, 0, 5), 6},
                {x.group(join, 5, 5), 3}, {x.filter(x.map(join, 0, 0, 5), 5, 2, MIN), 6}};
            for (int[] ask : asked) {
                due("8 run of node " + ask[0], () -> x.run(ask[0]), rows);
                due("11 width of node " + ask[0] + " with rows: " + rows, x::width, ask[1]);
            }
        }
    }

    /** "some rows (the same row may be there several times)" */
    private static void theSameRowMayBeThereSeveralTimes() {
        BatchPlans x = new BatchPlans(1, 1);
        rowsOf(x, 0, new int[][] {{1, 2, 3}, {1, 2, 3}});
        int scan = x.scan(0);
        x.run(scan);
        dueRows("3 scan", x, new int[][] {{1, 2, 3}, {1, 2, 3}});
        x.run(x.filter(scan, 0, 1, 1));
        dueRows("4 filter", x, new int[][] {{1, 2, 3}, {1, 2, 3}});
        x.run(x.map(scan, 0, PLUS, 1));
        dueRows("5 map", x, new int[][] {{3, 2, 3}, {3, 2, 3}});
        int join = x.join(scan, scan, 0, 0);
        x.run(join);
        int[] pair = {1, 2, 3, 1, 2, 3};
        dueRows("6 join", x, new int[][] {pair, pair, pair, pair});
        x.run(x.group(scan, 0, 2));
        dueRows("7 group", x, new int[][] {{1, 2, 6}});
        x.run(x.group(join, 3, 5));
        dueRows("7 group of the join", x, new int[][] {{1, 4, 12}});
        allRowsMayBeTheSame();
    }

    private static void allRowsMayBeTheSame() {
        BatchPlans x = new BatchPlans(16, 64);
        for (int i = 0; i < 16; i++) {
            x.row(0, 1, 2, 3);
            if (i < 8) {
                x.row(1, 1, 5, 6);
            }
        }
        x.join(x.scan(0), x.scan(1), 0, 0);
        due("3 16 times the same row", () -> x.run(0), 16);
        dueRow("3 the last of them", x, 15, 1, 2, 3);
        due("6 128 times the same row", () -> x.run(2), 128);
        dueRow("6 the last of them", x, 127, 1, 2, 3, 1, 5, 6);
    }

    /** "SCAN of a table: its rows.", when it is worked out */
    private static void scanGivesTheRowsAsTheyAreInTheRun() {
        BatchPlans x = new BatchPlans(1, 1);
        x.scan(2);
        due("3 no rows yet", () -> x.run(0), 0);
        x.row(2, 5, 6, 7);
        due("10 the result is as it was", x::rows, 0);
        due("3 a row that came behind the scan", () -> x.run(0), 1);
        x.row(2, 4, 6, 7);
        dueRows("9 the result is as it was", x, new int[][] {{5, 6, 7}});
        due("3 one row more", () -> x.run(0), 2);
        dueRows("9 both", x, new int[][] {{4, 6, 7}, {5, 6, 7}});
    }

    /** "less than the number (test 0), equal to it (1) or greater (2)" */
    private static void filterIsLessEqualOrGreater() {
        int[] numbers = {MIN, MIN + 1, -1, 0, 1, MAX - 1, MAX};
        for (int asked : numbers) {
            BatchPlans x = new BatchPlans(1, 1);
            int[] due = new int[3];
            for (int number : numbers) {
                x.row(0, 0, number, 0);
                due[number < asked ? 0 : number == asked ? 1 : 2]++;
            }
            x.scan(0);
            for (int test = 0; test < 3; test++) {
                int node = x.filter(0, 1, test, asked);
                due("4 test " + test + " with " + asked, () -> x.run(node), due[test]);
            }
            x.run(2);
            dueRows("4 equal to " + asked, x, new int[][] {{0, asked, 0}});
        }
    }

    /** "the column becomes itself plus (operation 0), minus (1) or times (2) the other one", and no other changes */
    private static void mapIsPlusMinusOrTimes() {
        int[][] asked = {{0, PLUS, 1, 10}, {0, MINUS, 1, 4}, {0, TIMES, 1, 21}, {1, MINUS, 0, -4}, {2, PLUS, 0, 3},
            {2, MINUS, 0, -11}, {1, TIMES, 2, -12}};
        BatchPlans x = new BatchPlans(1, 1);
        x.row(0, 7, 3, -4);
        x.scan(0);
        for (int[] ask : asked) {
            int[] due = {7, 3, -4};
            due[ask[0]] = ask[3];
            x.run(x.map(0, ask[0], ask[1], ask[2]));
            dueRows("5 column " + ask[0] + " by " + ask[1] + " with " + ask[2], x, new int[][] {due});
        }
        x.run(0);
        dueRows("5 the node that is read stays", x, new int[][] {{7, 3, -4}});
    }

    /** "by a column, an operation and another column (they may be the same)" */
    private static void mapOfAColumnWithItself() {
        dueOfItself(5, PLUS, 10);
        dueOfItself(5, MINUS, 0);
        dueOfItself(-5, TIMES, 25);
        dueOfItself((1 << 30) - 1, PLUS, MAX - 1);
        dueOfItselfFails(1 << 30, PLUS);
        dueOfItself(-(1 << 30), PLUS, MIN);
        dueOfItselfFails(-(1 << 30) - 1, PLUS);
        dueOfItself(MIN, MINUS, 0);
        dueOfItself(MAX, MINUS, 0);
        dueOfItself(46340, TIMES, 2147395600);
        dueOfItselfFails(46341, TIMES);
        dueOfItself(-46340, TIMES, 2147395600);
        dueOfItselfFails(-46341, TIMES);
        dueOfItselfFails(1 << 16, TIMES);
        dueOfItselfFails(MIN, TIMES);
        dueOfItselfFails(MAX, TIMES);
    }

    private static void dueOfItself(int number, int operation, int want) {
        BatchPlans x = mapOfItself(number, operation);
        due("5 " + number + " and itself by " + operation, () -> x.run(1), 1);
        dueRow("5 " + number + " and itself by " + operation, x, 0, 1, want, 2);
    }

    private static void dueOfItselfFails(int number, int operation) {
        BatchPlans x = mapOfItself(number, operation);
        dueThrows("5 " + number + " and itself by " + operation, () -> x.run(1), AE);
    }

    private static BatchPlans mapOfItself(int number, int operation) {
        BatchPlans x = new BatchPlans(1, 1);
        x.row(0, 1, number, 2);
        x.map(x.scan(0), 1, operation, 1);
        return x;
    }

    /** "the row with the left one's columns and then the right one's", by a column of each */
    private static void joinHasTheLeftColumnsAndThenTheRightOnes() {
        BatchPlans x = new BatchPlans(1, 64);
        rowsOf(x, 0, new int[][] {{1, 2, 3}, {4, 2, 6}, {7, 8, 9}});
        rowsOf(x, 1, new int[][] {{13, 14, 2}, {10, 11, 2}, {16, 17, 9}});
        x.scan(0);
        x.scan(1);
        x.run(x.join(0, 1, 1, 2));
        dueRows("6 join", x, new int[][] {{1, 2, 3, 10, 11, 2}, {1, 2, 3, 13, 14, 2}, {4, 2, 6, 10, 11, 2},
            {4, 2, 6, 13, 14, 2}});
        x.run(x.join(1, 0, 2, 2));
        dueRows("6 the other way round", x, new int[][] {{16, 17, 9, 7, 8, 9}});
        due("6 no number is the same", () -> x.run(x.join(0, 1, 0, 0)), 0);
        due("11 width of no rows", x::width, 6);
    }

    /** "JOIN of a left and a right node (they may be the same) by a column of each" */
    private static void joinOfANodeWithItself() {
        BatchPlans x = new BatchPlans(16, 64);
        rowsOf(x, 0, new int[][] {{1, 2, 3}, {2, 1, 3}, {5, 5, 4}});
        x.scan(0);
        x.run(x.join(0, 0, 0, 0));
        dueRows("6 by the same column", x, new int[][] {{1, 2, 3, 1, 2, 3}, {2, 1, 3, 2, 1, 3}, {5, 5, 4, 5, 5, 4}});
        x.run(x.join(0, 0, 0, 1));
        dueRows("6 by two columns", x, new int[][] {{1, 2, 3, 2, 1, 3}, {2, 1, 3, 1, 2, 3}, {5, 5, 4, 5, 5, 4}});
        due("12 its one batch is read twice", x::batches, 3);
        due("6 each with each", () -> x.run(x.join(0, 0, 2, 2)), 5);
        x.clear(false);
        x.join(x.scan(0), x.scan(0), 0, 0);
        x.run(2);
        due("12 two scans of one table are two nodes", x::batches, 4);
    }

    /** "for each different number in KEY the row of this number, how many rows have it there, and the sum" */
    private static void groupHasARowForEachDifferentKey() {
        BatchPlans x = new BatchPlans(1, 64);
        rowsOf(x, 0, new int[][] {{5, 9, 1}, {MIN, 9, 2}, {MAX, 9, 3}, {5, 9, -4}, {0, 9, 0}, {-5, 9, 7}, {MIN, 9, -2}});
        x.scan(0);
        x.run(x.group(0, 0, 2));
        dueRows("7 by column 0", x, new int[][] {{MIN, 2, 0}, {-5, 1, 7}, {0, 1, 0}, {5, 2, -3}, {MAX, 1, 3}});
        x.run(x.group(0, 1, 2));
        dueRows("7 one key", x, new int[][] {{9, 7, 7}});
        x.clear(true);
        int all = pairs(x, 8, 16);
        x.run(x.group(all, 0, 4));
        dueRows("7 128 rows of one key", x, new int[][] {{7, 128, 8 * 120}});
        due("7 128 keys", () -> x.run(x.group(x.map(all, 2, PLUS, 5), 2, 1)), 128);
        dueRow("7 the last one", x, 127, 127, 1, 7);
    }

    /** "GROUP of a node by two columns, KEY and VALUE": nothing keeps them apart. */
    private static void groupOfOneColumnAsKeyAndValue() {
        BatchPlans x = new BatchPlans(1, 64);
        keysOf(x, 0, 3, -4, 3, 3, 1 << 30);
        x.group(x.scan(0), 0, 0);
        x.run(1);
        dueRows("7 key and value", x, new int[][] {{-4, 1, -4}, {3, 3, 9}, {1 << 30, 1, 1 << 30}});
        x.row(0, 1 << 30, 0, 0);
        dueThrows("7 key and value fail", () -> x.run(1), AE);
    }

    /** "works out that node and all nodes that it is made of (directly or further down), each once" */
    private static void runWorksOutEachNodeOnce() {
        BatchPlans x = new BatchPlans(1, 64);
        rowsOf(x, 0, new int[][] {{1, 1, 0}, {2, 1, 0}, {3, 1, 0}});
        x.scan(0);
        x.filter(0, 0, 0, 3);
        x.map(1, 0, PLUS, 1);
        x.join(1, 2, 0, 0);
        x.run(3);
        dueRows("8 by both ways down to the filter", x, new int[][] {{2, 1, 0, 2, 1, 0}});
        due("12 scan 3, filter 3, map 2, join 2 and 2", x::batches, 3 + 3 + 2 + 4);
        x.group(3, 0, 1);
        x.join(4, 2, 0, 0);
        due("8 by three ways", () -> x.run(5), 1);
        due("12 and group 1, join 1 and 2", x::batches, 3 + 3 + 2 + 4 + 1 + 3);
    }

    /** "works out that node and all nodes that it is made of", and none that it is not made of */
    private static void runWorksOutNoOtherNode() {
        BatchPlans x = new BatchPlans(1, 1);
        x.row(0, MAX, 1, 1);
        x.scan(0);
        x.map(0, 0, PLUS, 1);
        x.filter(0, 0, 2, 0);
        x.group(2, 0, 0);
        x.map(3, 0, PLUS, 1);
        due("8 nodes 1 and 4 would fail", () -> x.run(3), 1);
        due("12 nodes 0, 2 and 3", x::batches, 3);
        dueCosts("13 14 node 3", x, 0, 1);
        due("8 the scan alone", () -> x.run(0), 1);
        due("12 node 0", x::batches, 1);
        dueCosts("13 14 node 0", x, 0, 0);
        dueThrows("8 node 4 itself fails", () -> x.run(4), AE);
    }

    /** "It FAILS when an exact number of a map or group is no int": just inside and just outside. */
    private static void mapFailsWhenANumberIsNoInt() {
        dueMap(MAX, PLUS, 0, MAX);
        dueMap(MAX - 1, PLUS, 1, MAX);
        dueMapFails(MAX, PLUS, 1);
        dueMapFails(MAX, PLUS, MAX);
        dueMap(MIN + 1, PLUS, -1, MIN);
        dueMapFails(MIN, PLUS, -1);
        dueMapFails(MIN, PLUS, MIN);
        dueMap(MIN, PLUS, MAX, -1);
        dueMap(MIN, MINUS, MIN, 0);
        dueMap(-1, MINUS, MIN, MAX);
        dueMapFails(0, MINUS, MIN);
        dueMapFails(MAX, MINUS, MIN);
        dueMap(-1, MINUS, MAX, MIN);
        dueMapFails(-2, MINUS, MAX);
        dueMapFails(MIN, MINUS, 1);
        dueMap(MIN, TIMES, 1, MIN);
        dueMapFails(MIN, TIMES, -1);
        dueMap(MAX, TIMES, -1, -MAX);
        dueMap(MIN, TIMES, 0, 0);
        dueMap(1 << 15, TIMES, -(1 << 16), MIN);
        dueMapFails(1 << 15, TIMES, 1 << 16);
        dueMapFails(1 << 16, TIMES, 1 << 16);
        dueMapFails(MIN, TIMES, MIN);
        dueMapFails(MIN, TIMES, MAX);
        dueMap(MAX / 3, TIMES, 3, MAX / 3 * 3);
        dueMapFails(MAX / 3 + 1, TIMES, 3);
    }

    private static void dueMap(int first, int operation, int second, int want) {
        BatchPlans x = mapOfTwo(first, operation, second);
        due("5 " + first + " and " + second + " by " + operation, () -> x.run(1), 1);
        dueRow("5 " + first + " and " + second + " by " + operation, x, 0, want, 0, second);
    }

    private static void dueMapFails(int first, int operation, int second) {
        BatchPlans x = mapOfTwo(first, operation, second);
        dueThrows("5 " + first + " and " + second + " by " + operation, () -> x.run(1), AE);
    }

    private static BatchPlans mapOfTwo(int first, int operation, int second) {
        BatchPlans x = new BatchPlans(1, 1);
        x.row(0, first, 0, second);
        x.map(x.scan(0), 0, operation, 2);
        return x;
    }

    /** "an exact number of a map": of the first row, of the last one, of one that a filter behind it takes away */
    private static void mapFailsByAnyRow() {
        for (int bad = 0; bad < 5; bad++) {
            BatchPlans x = new BatchPlans(2, 1);
            for (int i = 0; i < 5; i++) {
                x.row(0, i == bad ? MAX : i, 1, i);
            }
            x.scan(0);
            x.map(0, 0, PLUS, 1);
            x.filter(1, 2, 1, (bad + 1) % 5);
            dueThrows("5 row " + bad, () -> x.run(1), AE);
            dueThrows("5 a filter behind the map", () -> x.run(2), AE);
            x.filter(0, 0, 0, MAX);
            x.map(3, 0, PLUS, 1);
            due("5 a filter before the map", () -> x.run(4), 4);
        }
        BatchPlans none = new BatchPlans(1, 1);
        none.map(none.scan(0), 0, TIMES, 1);
        due("5 no rows do not fail", () -> none.run(1), 0);
    }

    /** "an exact number of a map or group is no int": the sums just inside and just outside, of any key */
    private static void groupFailsWhenASumIsNoInt() {
        dueSum(MAX, MAX - 1, 1);
        dueSumFails(MAX, 1);
        dueSum(MIN, MIN + 1, -1);
        dueSumFails(MIN, -1);
        dueSumFails(MAX, MAX);
        dueSumFails(MIN, MIN);
        dueSum(MIN, MIN);
        dueSum(MAX, MAX);
        int[] wrapsToZero = {MIN, MIN};
        dueSumFails(wrapsToZero);
        int[] wrapsToOne = {MAX, MAX, 3};
        dueSumFails(wrapsToOne);
    }

    /** "the sum of their VALUE columns, exactly": a sum on the way may be no int. */
    private static void groupDoesNotFailOnTheWay() {
        dueSum(MAX, MAX, 1, -1);
        dueSum(MAX, MAX, MAX, -MAX);
        dueSum(MIN, MIN, MIN, MAX, 1);
        dueSum(MAX - 1, MAX, MAX, MAX, -MAX, MIN, 0);
    }

    private static void dueSum(int want, int... values) {
        BatchPlans x = groupOfSums(values);
        due("7 sum " + want, () -> x.run(1), 2);
        dueRow("7 sum " + want, x, 1, 8, values.length, want);
    }

    private static void dueSumFails(int... values) {
        BatchPlans x = groupOfSums(values);
        dueThrows("7 sum of " + java.util.Arrays.toString(values), () -> x.run(1), AE);
    }

    /** The values have the key 8, and a row before and a row behind them have another one. */
    private static BatchPlans groupOfSums(int... values) {
        BatchPlans x = new BatchPlans(1, 1);
        x.row(0, 2, MAX, 0);
        for (int value : values) {
            x.row(0, 8, value, 0);
        }
        x.row(0, 2, -1, 0);
        x.group(x.scan(0), 0, 1);
        return x;
    }

    /** "or a join has more than 128 rows" */
    private static void joinFailsBeyond128Rows() {
        BatchPlans most = new BatchPlans(16, 3);
        int full = pairs(most, 8, 16);
        due("6 8 * 16 = 128 rows", () -> most.run(full), 128);
        dueRow("6 the first", most, 0, 7, 0, 0, 7, 0, 0);
        dueRow("6 the last", most, 127, 7, 7, 112, 7, 15, 15);
        most.row(0, 9, 0, 0);
        due("6 and a row without a pair", () -> most.run(full), 128);
        most.row(0, 7, 0, 0);
        dueThrows("6 9 * 16 = 144 rows", () -> most.run(full), ISE);
        BatchPlans more = new BatchPlans(16, 64);
        int over = pairs(more, 8, 15);
        rowsOf(more, 0, new int[][] {{8, 0, 0}, {8, 1, 0}, {8, 2, 0}, {8, 3, 0}, {8, 4, 0}, {8, 5, 0}, {8, 6, 0}});
        more.row(1, 8, 0, 0);
        due("6 8 * 15 + 7 = 127 rows", () -> more.run(over), 127);
        more.row(0, 8, 7, 0);
        due("6 8 * 15 + 8 = 128 rows", () -> more.run(over), 128);
        BatchPlans one = new BatchPlans(16, 64);
        int first = pairs(one, 11, 11);
        keysOf(one, 0, 8, 8, 8, 8);
        keysOf(one, 1, 8, 8);
        dueThrows("6 11 * 11 + 4 * 2 = 129 rows", () -> one.run(first), ISE);
        BatchPlans all = new BatchPlans(16, 64);
        int square = pairs(all, 16, 16);
        dueThrows("6 16 * 16 rows", () -> all.run(square), ISE);
        all.filter(square, 0, 0, MIN);
        dueThrows("6 a filter behind it takes all away", () -> all.run(square + 1), ISE);
    }

    /** "in order: by column 0, of equal ones by column 1, and so on, the lesser number first" */
    private static void resultIsInOrder() {
        BatchPlans x = new BatchPlans(2, 1);
        rowsOf(x, 0, new int[][] {{3, 0, 0}, {MAX, 1, 1}, {MIN, 9, 9}, {3, -1, 5}, {3, 0, -7}, {-1, 0, 0}, {3, 0, 0},
            {3, MAX, MIN}, {3, MIN, MAX}, {0, 0, 0}});
        x.run(x.scan(0));
        dueRows("9 order", x, new int[][] {{MIN, 9, 9}, {-1, 0, 0}, {0, 0, 0}, {3, MIN, MAX}, {3, -1, 5}, {3, 0, -7},
            {3, 0, 0}, {3, 0, 0}, {3, MAX, MIN}, {MAX, 1, 1}});
    }

    /** "and so on": each of the six columns of a join decides where those before it are equal. */
    private static void resultIsInOrderByEachColumn() {
        for (int c = 0; c < 6; c++) {
            int[] lesser = {1, 1, 1, 1, 1, 1};
            int[] greater = lesser.clone();
            greater[c] = 2;
            int table = c / 3;
            int joined = c % 3 == 0 ? 1 : 0;
            BatchPlans x = new BatchPlans(1, 64);
            x.row(table, greater[3 * table], greater[3 * table + 1], greater[3 * table + 2]);
            x.row(table, 1, 1, 1);
            x.row(1 - table, 1, 1, 1);
            x.join(x.scan(0), x.scan(1), joined, joined);
            x.run(2);
            dueRows("9 order by column " + c, x, new int[][] {lesser, greater});
        }
        BatchPlans y = new BatchPlans(1, 64);
        y.row(0, 1, 2, 2);
        rowsOf(y, 1, new int[][] {{4, 2, 0}, {3, 2, 9}});
        y.join(y.scan(0), y.scan(1), 1, 1);
        y.run(2);
        dueRows("9 column 3 goes before column 5", y, new int[][] {{1, 2, 2, 3, 2, 9}, {1, 2, 2, 4, 2, 0}});
    }
}
