/**
 * What an object answers before the first run, after a result without rows, after a run that fails and after
 * clear: every sentence of the promises 1 and 8 to 16 that names an edge has a method of its own.
 */
public final class StatesTest extends PlanCheck {
    public static void main(String[] args) {
        newObjectHasNothing();
        beforeTheFirstRunNothingIsCounted();
        aFirstRunThatFailsGivesNoResult();
        runRefusesNoSuchNode();
        theFirstNodeThatFailsDecides();
        aNodeFailsBeforeItsLaterOnesAreRead();
        aRunThatFailsChangesNothing();
        aRunThatFailsLeavesNothingForTheNext();
        cellRefusesNoSuchRowOrColumn();
        cellReadsEveryRowAndColumn();
        aResultWithoutRowsHasColumns();
        aResultTakesThePlaceOfTheLast();
        heldIsZeroWhenThereWasNone();
        nodesAreCounted();
        clearLeavesTheTables();
        clearTakesTheTables();
        clearKeepsTheResult();
        clearMakesRoomForTwelveNodes();
        clearOfNothing();
        end();
    }

    private static BatchPlans filled() {
        BatchPlans x = new BatchPlans(2, 1);
        rowsOf(x, 0, new int[][] {{1, 2, 3}, {4, 5, 6}, {7, MAX, 6}});
        return x;
    }

    /**
     * The groups of three rows are the result; node 2 is a map that fails, 3 a join behind it, 5 a join that fails,
     * 6 a group behind it, 7 a group that fails.
     */
    private static BatchPlans readyToFail() {
        BatchPlans x = filled();
        for (int i = 0; i < 12; i++) {
            x.row(1, 1, 1 << 30, i);
        }
        x.group(x.scan(0), 0, 1);
        x.map(0, 1, 0, 0);
        x.join(1, 2, 0, 0);
        x.scan(1);
        x.join(4, 4, 0, 0);
        x.group(5, 0, 1);
        x.group(4, 0, 1);
        x.run(1);
        return x;
    }

    /** "No rows, no nodes; the result has no rows and no columns." */
    private static void newObjectHasNothing() {
        int[] sizes = {MIN, 0, 1, 16, 64, MAX};
        for (int batch : sizes) {
            for (int memory : sizes) {
                String what = "1 new (" + batch + ", " + memory + ")";
                BatchPlans x = new BatchPlans(batch, memory);
                dueResult(what, x, 0, 0, 0, 0, 0);
                due(what + ", nodes", x::nodes, 0);
                dueThrows(what + ", run", () -> x.run(0), IAE);
                for (int t = 0; t < 3; t++) {
                    int table = t;
                    due(what + ", scan", () -> x.scan(table), t);
                    due(what + ", rows of table " + t, () -> x.run(table), 0);
                    due(what + ", first row of table " + t, () -> x.row(table, 0, 0, 0), 1);
                }
            }
        }
    }

    /** "0 before the first one": rows and nodes alone, and a clear, are no run. */
    private static void beforeTheFirstRunNothingIsCounted() {
        BatchPlans x = filled();
        dueResult("9 to 14 rows", x, 0, 0, 0, 0, 0);
        x.group(x.join(x.scan(0), x.scan(0), 0, 0), 0, 0);
        dueResult("9 to 14 nodes", x, 0, 0, 0, 0, 0);
        due("15 nodes", x::nodes, 4);
        x.clear(false);
        dueResult("9 to 14 clear(false)", x, 0, 0, 0, 0, 0);
        x.clear(true);
        dueResult("9 to 14 clear(true)", x, 0, 0, 0, 0, 0);
    }

    /** "the run that gave the result": one that fails gives none. */
    private static void aFirstRunThatFailsGivesNoResult() {
        BatchPlans x = filled();
        keysOf(x, 1, 1, 1, 1, 1, 1, 1, 1, 1, 1, 1, 1, 1);
        x.scan(0);
        x.map(x.group(0, 0, 1), 2, 0, 2);
        x.scan(1);
        x.join(3, 3, 0, 0);
        dueThrows("8 no such node", () -> x.run(5), IAE);
        dueResult("9 to 14 no such node", x, 0, 0, 0, 0, 0);
        dueThrows("8 a map behind a group", () -> x.run(2), AE);
        dueResult("9 to 14 a map fails", x, 0, 0, 0, 0, 0);
        dueThrows("8 a join", () -> x.run(4), ISE);
        dueResult("9 to 14 a join fails", x, 0, 0, 0, 0, 0);
    }

    /** "IllegalArgumentException when there is no such node." */
    private static void runRefusesNoSuchNode() {
        for (int wrong : new int[] {MIN, -1, 8, 9, 11, 12, 31, 32, MAX}) {
            dueRefused("8 node " + wrong, StatesTest::readyToFail, x -> x.run(wrong), IAE);
        }
        BatchPlans x = readyToFail();
        due("8 the first node", () -> x.run(0), 3);
        for (int n = 8; n < 12; n++) {
            int node = n;
            dueThrows("8 one behind the last", () -> x.run(node), IAE);
            x.scan(0);
            due("8 the last node", () -> x.run(node), 3);
        }
        dueThrows("8 node 12 of twelve", () -> x.run(12), IAE);
    }

    /** "the first that does so decides: ArithmeticException for a map or group, IllegalStateException for a join" */
    private static void theFirstNodeThatFailsDecides() {
        BatchPlans x = new BatchPlans(16, 16);
        for (int i = 0; i < 12; i++) {
            x.row(0, 1, MAX, i);
        }
        int scan = x.scan(0);
        int join = x.join(scan, scan, 0, 0);
        int map = x.map(scan, 1, 0, 0);
        int laterJoin = x.join(scan, scan, 0, 0);
        int group = x.group(scan, 0, 1);
        dueThrows("8 a join", () -> x.run(join), ISE);
        dueThrows("8 a map", () -> x.run(map), AE);
        dueThrows("8 a join", () -> x.run(laterJoin), ISE);
        dueThrows("8 a group", () -> x.run(group), AE);
        int behindJoin = x.group(join, 0, 1);
        dueThrows("8 a join before a group", () -> x.run(behindJoin), ISE);
        int joinThenMap = x.join(map, behindJoin, 0, 0);
        dueThrows("8 node 1 before node 2, though it is on the right", () -> x.run(joinThenMap), ISE);
        int behindLater = x.group(laterJoin, 0, 0);
        int mapThenJoin = x.join(behindLater, map, 0, 0);
        dueThrows("8 node 2 before node 3, though it is on the right", () -> x.run(mapThenJoin), AE);
        int joinThenGroup = x.join(group, behindLater, 0, 0);
        dueThrows("8 node 3 before node 4, though it is on the right", () -> x.run(joinThenGroup), ISE);
        int groupThenJoin = x.join(group, group, 0, 0);
        dueThrows("8 a group that is read twice", () -> x.run(groupThenJoin), AE);
        due("8 and the scan does not fail", () -> x.run(scan), 12);
    }

    /** The failing node's number decides, not how far down it is: node 1 is read by node 5 alone. */
    private static void aNodeFailsBeforeItsLaterOnesAreRead() {
        BatchPlans x = new BatchPlans(16, 16);
        for (int i = 0; i < 12; i++) {
            x.row(0, 1, MAX, i);
        }
        x.scan(0);
        x.map(0, 1, 0, 0);
        x.join(0, 0, 0, 0);
        x.group(2, 0, 0);
        x.group(3, 0, 0);
        x.join(4, 1, 0, 0);
        dueThrows("8 the map is node 1", () -> x.run(5), AE);
        dueThrows("8 without the map", () -> x.run(4), ISE);
    }

    /** "A call that throws changes nothing.", a run that fails at its first or at its last node */
    private static void aRunThatFailsChangesNothing() {
        dueRefused("8 a map", StatesTest::readyToFail, x -> x.run(2), AE);
        dueRefused("8 a map behind a group", StatesTest::readyToFail, x -> x.run(3), AE);
        dueRefused("8 a join", StatesTest::readyToFail, x -> x.run(5), ISE);
        dueRefused("8 a join before a group", StatesTest::readyToFail, x -> x.run(6), ISE);
        dueRefused("8 a group", StatesTest::readyToFail, x -> x.run(7), AE);
        BatchPlans x = readyToFail();
        for (int node : new int[] {2, 3, 5, 6, 7}) {
            due("15 nodes", x::nodes, 8);
            note("8 node " + node + " fails", Boolean.toString(answerOf(() -> x.run(node)).startsWith("throws")), "true");
            // Key 1 is in part 2, but 4 and 7 are both in part 1, so these are written once more.
            dueResult("9 to 14 after node " + node, x, 3, 3, 4, 5, 1);
            dueRows("9 after node " + node, x, new int[][] {{1, 1, 2}, {4, 1, 5}, {7, 1, MAX}});
        }
    }

    /** What a run that failed had read, written and held is not in the next run's answers, nor are its rows. */
    private static void aRunThatFailsLeavesNothingForTheNext() {
        BatchPlans x = readyToFail();
        for (int node : new int[] {3, 5, 7}) {
            answerOf(() -> x.run(node));
            due("8 the group again", () -> x.run(1), 3);
            dueResult("9 to 14 the group again", x, 3, 3, 4, 5, 1);
            due("8 the scan", () -> x.run(0), 3);
            dueResult("9 to 14 the scan", x, 3, 3, 2, 0, 0);
        }
        BatchPlans y = new BatchPlans(16, 64);
        int join = pairs(y, 12, 12);
        dueThrows("6 144 rows", () -> y.run(join), ISE);
        y.clear(true);
        int less = pairs(y, 2, 1);
        due("6 2 rows in the same node", () -> y.run(less), 2);
        dueRows("6 2 rows", y, new int[][] {{7, 0, 0, 7, 0, 0}, {7, 1, 1, 7, 0, 0}});
    }

    /** "IndexOutOfBoundsException when there is no such row or column.", and nothing changes */
    private static void cellRefusesNoSuchRowOrColumn() {
        for (int wrong : new int[] {MIN, -1, 3, 128, MAX}) {
            dueRefused("9 row " + wrong, StatesTest::readyToFail, x -> x.cell(wrong, 0), IOOBE);
            dueRefused("9 column " + wrong, StatesTest::readyToFail, x -> x.cell(0, wrong), IOOBE);
            dueRefused("9 both " + wrong, StatesTest::readyToFail, x -> x.cell(wrong, wrong), IOOBE);
        }
        // Together these would be inside, were they one number.
        dueRefused("9 row 1, column -1", StatesTest::readyToFail, x -> x.cell(1, -1), IOOBE);
        dueRefused("9 row -1, column 5", StatesTest::readyToFail, x -> x.cell(-1, 5), IOOBE);
        dueRefused("9 row 0, column 4", StatesTest::readyToFail, x -> x.cell(0, 4), IOOBE);
    }

    /** "Column c of row k of the result.", the first and the last of the smallest and of the greatest result */
    private static void cellReadsEveryRowAndColumn() {
        BatchPlans x = new BatchPlans(16, 64);
        int most = pairs(x, 8, 16);
        x.run(most);
        dueRow("9 first of 128", x, 0, 7, 0, 0, 7, 0, 0);
        dueRow("9 last of 128", x, 127, 7, 7, 112, 7, 15, 15);
        dueThrows("9 row 128", () -> x.cell(128, 0), IOOBE);
        dueThrows("9 column 6", () -> x.cell(0, 6), IOOBE);
        x.run(x.group(most, 0, 3));
        dueRow("9 one row", x, 0, 7, 128, 7 * 128);
        dueThrows("9 row 1, which the last result had", () -> x.cell(1, 0), IOOBE);
        dueThrows("9 column 3, which the last result had", () -> x.cell(0, 3), IOOBE);
    }

    /** "How many columns the result has.": those of its node, when it has no rows too */
    private static void aResultWithoutRowsHasColumns() {
        BatchPlans x = filled();
        int scan = x.scan(0);
        int none = x.filter(scan, 0, 0, MIN);
        x.run(scan);
        due("8 a filter that takes none", () -> x.run(none), 0);
        dueResult("9 to 14 a filter that takes none", x, 0, 3, 4, 0, 0);
        int join = x.join(none, scan, 0, 0);
        due("8 a join without rows", () -> x.run(join), 0);
        dueResult("9 to 14 a join without rows", x, 0, 6, 6, 0, 0);
        int group = x.group(join, 5, 5);
        due("8 a group without rows", () -> x.run(group), 0);
        dueResult("9 to 14 a group without rows", x, 0, 3, 6, 0, 0);
        int map = x.map(join, 5, 0, 5);
        due("8 a map without rows", () -> x.run(map), 0);
        dueResult("9 to 14 a map without rows", x, 0, 6, 6, 0, 0);
        int empty = x.scan(1);
        due("8 a scan without rows", () -> x.run(empty), 0);
        dueResult("9 to 14 a scan without rows", x, 0, 3, 0, 0, 0);
        // The keys 3, 6, 6 and 1, 4, 7 are all written; in part 2 the two 6 meet 1, which is held.
        int unmet = x.join(scan, scan, 2, 0);
        due("8 a join whose rows find no pair", () -> x.run(unmet), 0);
        dueResult("9 to 14 a join whose rows find no pair", x, 0, 6, 2 + 4, 6, 1);
    }

    /** "the run that gave the result": the last one without failing, whatever the ones before it gave */
    private static void aResultTakesThePlaceOfTheLast() {
        BatchPlans x = filled();
        int scan = x.scan(0);
        int join = x.join(scan, scan, 0, 0);
        for (int again = 0; again < 2; again++) {
            due("8 three rows", () -> x.run(join), 3);
            // All of both at level 0; then 4 and 7, which are in part 1, once more.
            dueResult("9 to 14 join", x, 3, 6, 2 + 4, 6 + 4, 1);
            due("8 three rows", () -> x.run(scan), 3);
            dueResult("9 to 14 scan", x, 3, 3, 2, 0, 0);
        }
        x.row(0, 0, 0, 0);
        dueResult("9 to 14 a new row changes no result", x, 3, 3, 2, 0, 0);
        dueRow("9 nor its first row", x, 0, 1, 2, 3);
        due("8 four rows", () -> x.run(scan), 4);
        dueRow("9 the new row", x, 0, 0, 0, 0);
    }

    /** "0 before the first one, and when there was none": no join and no group, or none that held anything */
    private static void heldIsZeroWhenThereWasNone() {
        BatchPlans x = filled();
        int scan = x.scan(0);
        int group = x.group(scan, 0, 0);
        int filter = x.filter(scan, 0, 0, 5);
        int map = x.map(filter, 0, 0, 2);
        int empty = x.scan(2);
        int[] without = {scan, filter, map, empty, x.join(scan, empty, 0, 0), x.join(empty, scan, 0, 0),
            x.group(empty, 0, 0)};
        for (int node : without) {
            x.run(group);
            dueCosts("13 14 group", x, 5, 1);
            x.run(node);
            dueCosts("13 14 node " + node + " holds none", x, 0, 0);
        }
    }

    /** "How many nodes there are.": 0 to 12, and no run changes it */
    private static void nodesAreCounted() {
        BatchPlans x = new BatchPlans(1, 1);
        for (int n = 0; n < 12; n++) {
            due("15 nodes", x::nodes, n);
            x.scan(n % 3);
        }
        due("15 nodes", x::nodes, 12);
        x.run(11);
        due("15 after a run", x::nodes, 12);
        x.clear(false);
        due("15 after clear", x::nodes, 0);
        x.scan(0);
        due("15 after clear and scan", x::nodes, 1);
    }

    /** "There are no nodes any more": clear(false) leaves the rows of each table. */
    private static void clearLeavesTheTables() {
        BatchPlans x = filled();
        fill(x, 1, 16);
        x.row(2, 8, 8, 8);
        x.join(x.scan(0), x.scan(1), 0, 0);
        x.clear(false);
        due("16 nodes", x::nodes, 0);
        for (int node = 0; node < 3; node++) {
            int gone = node;
            dueThrows("16 run of node " + node, () -> x.run(gone), IAE);
            dueThrows("16 filter of node " + node, () -> x.filter(gone, 0, 0, 0), IAE);
        }
        due("16 table 0", () -> x.row(0, 9, 9, 9), 4);
        dueThrows("16 table 1 is as full", () -> x.row(1, 9, 9, 9), ISE);
        due("16 table 2", () -> x.row(2, 9, 9, 9), 2);
        due("16 numbers begin anew", () -> x.scan(2), 0);
        due("16 rows of table 2", () -> x.run(0), 2);
        dueRows("16 rows of table 2", x, new int[][] {{8, 8, 8}, {9, 9, 9}});
    }

    /** "when tables is true, no rows in the tables": in none of the three */
    private static void clearTakesTheTables() {
        BatchPlans x = new BatchPlans(4, 4);
        for (int t = 0; t < 3; t++) {
            fill(x, t, 16);
        }
        x.scan(1);
        x.clear(true);
        due("16 nodes", x::nodes, 0);
        dueThrows("16 run", () -> x.run(0), IAE);
        for (int t = 0; t < 3; t++) {
            int table = t;
            due("16 scan", () -> x.scan(table), t);
            due("16 rows of table " + t, () -> x.run(table), 0);
            due("12 batches of table " + t, x::batches, 0);
            for (int i = 1; i <= 16; i++) {
                int number = i;
                due("16 row " + i, () -> x.row(table, -number, 0, 0), i);
            }
            dueThrows("16 row 17", () -> x.row(table, 0, 0, 0), ISE);
            due("16 new rows of table " + t, () -> x.run(table), 16);
            dueRow("16 first", x, 0, -16, 0, 0);
            dueRow("16 last", x, 15, -1, 0, 0);
        }
    }

    /** "The result stays.", of a table's own rows and of a join, for both kinds of clear, and of many */
    private static void clearKeepsTheResult() {
        for (int node = 0; node < 2; node++) {
            int[] width = {3, 6};
            BatchPlans x = filled();
            int scan = x.scan(0);
            x.join(scan, scan, 0, 0);
            x.run(node);
            String before = result(x);
            for (boolean tables : new boolean[] {false, true, true, false}) {
                x.clear(tables);
                note("16 result after clear(" + tables + ")", result(x), before);
                dueResult("16", x, 3, width[node], node == 0 ? 2 : 6, node == 0 ? 0 : 10, node);
            }
            fill(x, 0, 16);
            x.map(x.scan(0), 0, 2, 0);
            note("16 result after new rows and nodes", result(x), before);
            dueThrows("16 no such node", () -> x.run(2), IAE);
            note("16 result after a run that fails", result(x), before);
            due("16 a new run", () -> x.run(1), 16);
            dueRow("16 its last row", x, 15, 256, 15, 0);
        }
    }

    /** A full plan has room again, for nodes of other kinds and widths than the ones before. */
    private static void clearMakesRoomForTwelveNodes() {
        BatchPlans x = filled();
        for (int n = 0; n < 12; n++) {
            if (n == 0) {
                x.scan(0);
            } else {
                x.join(0, 0, 0, 0);
            }
        }
        x.run(11);
        x.clear(false);
        for (int n = 0; n < 12; n++) {
            int node = n;
            due("16 node " + n, () -> node == 0 ? x.scan(0) : x.map(node - 1, 0, 0, 2), n);
        }
        dueThrows("16 thirteenth", () -> x.scan(0), ISE);
        x.run(11);
        dueRows("16 the new nodes", x, new int[][] {{34, 2, 3}, {70, 5, 6}, {73, MAX, 6}});
        due("12 of twelve nodes", x::batches, 12 * 2);
    }

    /** clear where there is nothing to take away */
    private static void clearOfNothing() {
        for (boolean tables : new boolean[] {false, true}) {
            BatchPlans x = new BatchPlans(1, 1);
            x.clear(tables);
            x.clear(tables);
            dueResult("16 clear(" + tables + ") of nothing", x, 0, 0, 0, 0, 0);
            due("16 nodes", x::nodes, 0);
            due("16 row", () -> x.row(0, 1, 1, 1), 1);
            due("16 scan", () -> x.scan(0), 0);
            due("16 run", () -> x.run(0), 1);
        }
    }
}
