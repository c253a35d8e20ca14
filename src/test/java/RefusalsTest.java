/**
 * What the calls that build tables and plans refuse, on both sides of each range, and what they take at its edges.
 * After each refused call the object shows in everything what a twin shows that was not asked.
 */
public final class RefusalsTest extends PlanCheck {
    private static final int[] NOT_OF_THREE = {MIN, -1, 3, MAX};
    private static final int[] NOT_OF_SIX = {MIN, -1, 6, MAX};
    /** The nodes of a plan with room: these have width 3 and width 6, and 6 is the first number without a node. */
    private static final int THREE = 0;
    private static final int SIX = 2;
    private static final int LAST = 5;
    private static final int[] NO_NODE = {MIN, -1, 6, 12, MAX};
    private static final int[] NO_NODE_OF_TWELVE = {MIN, -1, 12, 13, MAX};

    public static void main(String[] args) {
        rowRefuses();
        scanRefuses();
        filterRefuses();
        mapRefuses();
        joinRefuses();
        joinRefusesMoreThanSixColumns();
        groupRefuses();
        edgesAreTaken();
        noNodeIsThereInTheBeginning();
        theFirstNamedIsThrownOfTwo();
        end();
    }

    private static BatchPlans empty() {
        return new BatchPlans(2, 2);
    }

    /** A plan with room for six nodes more, and the result of its group. */
    private static BatchPlans withRoom() {
        BatchPlans x = new BatchPlans(2, 2);
        rowsOf(x, 0, new int[][] {{1, 5, 9}, {2, 5, 9}, {3, 6, 9}});
        rowsOf(x, 1, new int[][] {{2, 0, 0}, {3, 1, 1}});
        x.scan(0);
        x.scan(1);
        x.join(0, 1, 0, 0);
        x.group(2, 1, 4);
        x.map(2, 5, 0, 0);
        x.filter(0, 0, 0, 3);
        x.run(3);
        return x;
    }

    private static BatchPlans withTwelveNodes() {
        BatchPlans x = withRoom();
        for (int n = 6; n < 12; n++) {
            x.scan(1);
        }
        return x;
    }

    /** Three full tables, and a result of one row. */
    private static BatchPlans withFullTables() {
        BatchPlans x = new BatchPlans(2, 2);
        for (int t = 0; t < 3; t++) {
            fill(x, t, 16);
        }
        x.filter(x.scan(1), 0, 1, 5);
        x.run(1);
        return x;
    }

    /** "IllegalArgumentException when there is no such table; IllegalStateException when it has 16." */
    private static void rowRefuses() {
        for (int wrong : NOT_OF_THREE) {
            dueRefused("2 row of table " + wrong, RefusalsTest::empty, x -> x.row(wrong, 1, 2, 3), IAE);
            dueRefused("2 row of table " + wrong, RefusalsTest::withRoom, x -> x.row(wrong, 1, 2, 3), IAE);
        }
        for (int t = 0; t < 3; t++) {
            int table = t;
            dueRefused("2 row of full table " + t, RefusalsTest::withFullTables, x -> x.row(table, MIN, 0, 0), ISE);
            dueRefused("2 row of full table " + t, RefusalsTest::withFullTables, x -> x.row(table, MAX, 0, 0), ISE);
        }
    }

    /** "IllegalArgumentException when there is no such table; IllegalStateException when there are 12 nodes." */
    private static void scanRefuses() {
        for (int wrong : NOT_OF_THREE) {
            dueRefused("3 scan of table " + wrong, RefusalsTest::empty, x -> x.scan(wrong), IAE);
            dueRefused("3 scan of table " + wrong, RefusalsTest::withRoom, x -> x.scan(wrong), IAE);
        }
        for (int t = 0; t < 3; t++) {
            int table = t;
            dueRefused("3 thirteenth node", RefusalsTest::withTwelveNodes, x -> x.scan(table), ISE);
        }
    }

    /** "IllegalArgumentException when there is no such node, column of it, or test; ... when there are 12 nodes." */
    private static void filterRefuses() {
        for (int wrong : NO_NODE) {
            dueRefused("4 node " + wrong, RefusalsTest::withRoom, x -> x.filter(wrong, 0, 0, 0), IAE);
        }
        for (int wrong : NOT_OF_THREE) {
            dueRefused("4 column " + wrong, RefusalsTest::withRoom, x -> x.filter(THREE, wrong, 0, 0), IAE);
            dueRefused("4 test " + wrong, RefusalsTest::withRoom, x -> x.filter(THREE, 0, wrong, 0), IAE);
        }
        for (int wrong : NOT_OF_SIX) {
            dueRefused("4 column of six " + wrong, RefusalsTest::withRoom, x -> x.filter(SIX, wrong, 0, 0), IAE);
        }
        dueRefused("4 thirteenth node", RefusalsTest::withTwelveNodes, x -> x.filter(0, 0, 0, 0), ISE);
    }

    /** "IllegalArgumentException when there is no such node, column of it (either one), or operation; ..." */
    private static void mapRefuses() {
        for (int wrong : NO_NODE) {
            dueRefused("5 node " + wrong, RefusalsTest::withRoom, x -> x.map(wrong, 0, 0, 0), IAE);
        }
        for (int wrong : NOT_OF_THREE) {
            dueRefused("5 column " + wrong, RefusalsTest::withRoom, x -> x.map(THREE, wrong, 0, 0), IAE);
            dueRefused("5 operation " + wrong, RefusalsTest::withRoom, x -> x.map(THREE, 0, wrong, 0), IAE);
            dueRefused("5 other " + wrong, RefusalsTest::withRoom, x -> x.map(THREE, 0, 0, wrong), IAE);
        }
        for (int wrong : NOT_OF_SIX) {
            dueRefused("5 column of six " + wrong, RefusalsTest::withRoom, x -> x.map(SIX, wrong, 0, 0), IAE);
            dueRefused("5 other of six " + wrong, RefusalsTest::withRoom, x -> x.map(SIX, 0, 0, wrong), IAE);
        }
        dueRefused("5 thirteenth node", RefusalsTest::withTwelveNodes, x -> x.map(0, 0, 0, 0), ISE);
    }

    /** "IllegalArgumentException when there is no such node or column of it, left or right; ... 12 nodes" */
    private static void joinRefuses() {
        for (int wrong : NO_NODE) {
            dueRefused("6 left " + wrong, RefusalsTest::withRoom, x -> x.join(wrong, THREE, 0, 0), IAE);
            dueRefused("6 right " + wrong, RefusalsTest::withRoom, x -> x.join(THREE, wrong, 0, 0), IAE);
            dueRefused("6 both " + wrong, RefusalsTest::withRoom, x -> x.join(wrong, wrong, 0, 0), IAE);
        }
        for (int wrong : NOT_OF_THREE) {
            dueRefused("6 left column " + wrong, RefusalsTest::withRoom, x -> x.join(THREE, LAST, wrong, 0), IAE);
            dueRefused("6 right column " + wrong, RefusalsTest::withRoom, x -> x.join(THREE, LAST, 0, wrong), IAE);
        }
        dueRefused("6 thirteenth node", RefusalsTest::withTwelveNodes, x -> x.join(0, 1, 0, 0), ISE);
    }

    /** "IllegalStateException when ..., or it would have more than 6 columns" */
    private static void joinRefusesMoreThanSixColumns() {
        dueRefused("6 six and three", RefusalsTest::withRoom, x -> x.join(SIX, THREE, 0, 0), ISE);
        dueRefused("6 three and six", RefusalsTest::withRoom, x -> x.join(THREE, SIX, 0, 0), ISE);
        dueRefused("6 six and six", RefusalsTest::withRoom, x -> x.join(SIX, SIX, 0, 0), ISE);
        dueRefused("6 the last columns of both", RefusalsTest::withRoom, x -> x.join(SIX, THREE, 5, 2), ISE);
        dueRefused("6 the last columns of both", RefusalsTest::withRoom, x -> x.join(THREE, SIX, 2, 5), ISE);
        dueRefused("6 a map has as many as its node", RefusalsTest::withRoom, x -> x.join(4, THREE, 5, 2), ISE);
        dueRefused("6 thirteenth and too wide", RefusalsTest::withTwelveNodes, x -> x.join(SIX, SIX, 5, 5), ISE);
    }

    /** "IllegalArgumentException when there is no such node or column of it (either one); ..." */
    private static void groupRefuses() {
        for (int wrong : NO_NODE) {
            dueRefused("7 node " + wrong, RefusalsTest::withRoom, x -> x.group(wrong, 0, 0), IAE);
        }
        for (int wrong : NOT_OF_THREE) {
            dueRefused("7 key " + wrong, RefusalsTest::withRoom, x -> x.group(THREE, wrong, 0), IAE);
            dueRefused("7 value " + wrong, RefusalsTest::withRoom, x -> x.group(THREE, 0, wrong), IAE);
            dueRefused("7 key of a group " + wrong, RefusalsTest::withRoom, x -> x.group(3, wrong, 0), IAE);
        }
        for (int wrong : NOT_OF_SIX) {
            dueRefused("7 key of six " + wrong, RefusalsTest::withRoom, x -> x.group(SIX, wrong, 0), IAE);
            dueRefused("7 value of six " + wrong, RefusalsTest::withRoom, x -> x.group(SIX, 0, wrong), IAE);
        }
        dueRefused("7 thirteenth node", RefusalsTest::withTwelveNodes, x -> x.group(0, 0, 0), ISE);
    }

    /** The first and the last of each range are not refused. */
    private static void edgesAreTaken() {
        Asked[] taken = {x -> x.scan(0), x -> x.scan(2), x -> x.filter(0, 0, 0, MIN), x -> x.filter(LAST, 2, 2, MAX),
            x -> x.filter(SIX, 5, 1, 0), x -> x.map(0, 0, 0, 2), x -> x.map(LAST, 2, 2, 0), x -> x.map(SIX, 5, 1, 5),
            x -> x.join(0, LAST, 0, 2), x -> x.join(LAST, 0, 2, 0), x -> x.join(3, 3, 2, 2), x -> x.group(0, 0, 2),
            x -> x.group(LAST, 2, 0), x -> x.group(SIX, 5, 5)};
        for (int i = 0; i < taken.length; i++) {
            Asked call = taken[i];
            BatchPlans x = withRoom();
            String before = result(x);
            due("3 to 7 edge " + i, () -> call.of(x), 6);
            due("15 edge " + i, x::nodes, 7);
            note("10 to 14 a new node changes no result", result(x), before);
        }
        for (int t = 0; t < 3; t += 2) {
            int table = t;
            BatchPlans x = empty();
            due("2 row of table " + t, () -> x.row(table, 1, 2, 3), 1);
        }
    }

    /** "No rows, no nodes": node 0 is no node, nor is the one that a call would make. */
    private static void noNodeIsThereInTheBeginning() {
        for (int wrong : new int[] {MIN, -1, 0, 1, MAX}) {
            dueRefused("4 node " + wrong, RefusalsTest::empty, x -> x.filter(wrong, 0, 0, 0), IAE);
            dueRefused("5 node " + wrong, RefusalsTest::empty, x -> x.map(wrong, 0, 0, 0), IAE);
            dueRefused("6 nodes " + wrong, RefusalsTest::empty, x -> x.join(wrong, wrong, 0, 0), IAE);
            dueRefused("7 node " + wrong, RefusalsTest::empty, x -> x.group(wrong, 0, 0), IAE);
            dueRefused("8 node " + wrong, RefusalsTest::empty, x -> x.run(wrong), IAE);
        }
    }

    /** "Where a call may throw two things, the one that is named first is thrown when both are so." */
    private static void theFirstNamedIsThrownOfTwo() {
        Maker full = RefusalsTest::withTwelveNodes;
        for (int wrong : NOT_OF_THREE) {
            dueRefused("2 all full, table " + wrong, RefusalsTest::withFullTables, x -> x.row(wrong, 0, 0, 0), IAE);
            dueRefused("3 full, table " + wrong, full, x -> x.scan(wrong), IAE);
            dueRefused("4 full, column " + wrong, full, x -> x.filter(THREE, wrong, 0, 0), IAE);
            dueRefused("4 full, test " + wrong, full, x -> x.filter(THREE, 0, wrong, 0), IAE);
            dueRefused("5 full, column " + wrong, full, x -> x.map(THREE, wrong, 0, 0), IAE);
            dueRefused("5 full, operation " + wrong, full, x -> x.map(THREE, 0, wrong, 0), IAE);
            dueRefused("5 full, other " + wrong, full, x -> x.map(THREE, 0, 0, wrong), IAE);
            dueRefused("6 full, left column " + wrong, full, x -> x.join(THREE, THREE, wrong, 0), IAE);
            dueRefused("6 full, right column " + wrong, full, x -> x.join(THREE, THREE, 0, wrong), IAE);
            dueRefused("6 full, wide, right column " + wrong, full, x -> x.join(SIX, THREE, 0, wrong), IAE);
            dueRefused("6 wide, right column " + wrong, RefusalsTest::withRoom, x -> x.join(SIX, THREE, 0, wrong), IAE);
            dueRefused("6 wide, left column " + wrong, RefusalsTest::withRoom, x -> x.join(THREE, SIX, wrong, 0), IAE);
            dueRefused("7 full, key " + wrong, full, x -> x.group(THREE, wrong, 0), IAE);
            dueRefused("7 full, value " + wrong, full, x -> x.group(THREE, 0, wrong), IAE);
        }
        for (int wrong : NOT_OF_SIX) {
            dueRefused("6 wide, left column " + wrong, RefusalsTest::withRoom, x -> x.join(SIX, SIX, wrong, 0), IAE);
            dueRefused("6 wide, right column " + wrong, RefusalsTest::withRoom, x -> x.join(SIX, SIX, 0, wrong), IAE);
        }
        for (int wrong : NO_NODE_OF_TWELVE) {
            dueRefused("4 full, node " + wrong, full, x -> x.filter(wrong, 0, 0, 0), IAE);
            dueRefused("5 full, node " + wrong, full, x -> x.map(wrong, 0, 0, 0), IAE);
            dueRefused("6 full, left " + wrong, full, x -> x.join(wrong, SIX, 0, 0), IAE);
            dueRefused("6 full, right " + wrong, full, x -> x.join(SIX, wrong, 0, 0), IAE);
            dueRefused("7 full, node " + wrong, full, x -> x.group(wrong, 0, 0), IAE);
        }
    }
}
