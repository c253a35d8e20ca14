/** What the document says of the whole: the limits do not change the outcome, and an object is good for 512 calls. */
public final class WholeTest extends PlanCheck {
    private static final int CALLS = 512;
    private static final int NODES = 12;
    private static final int[] FAILING = {1, 2, 3, 6, 9};

    public static void main(String[] args) {
        outcomeIsAsIfThereWereNoLimit();
        outcomeIsThatOfEachNode();
        failingIsAsIfThereWereNoLimit();
        the512thCallIsAnswered();
        runsDoNotWearAnObjectOut();
        refusedCallsDoNotWearAnObjectOut();
        objectsDoNotMeet();
        end();
    }

    /** Twelve nodes of every kind, none of which fails, over 12 rows of nine keys and 16 rows of six keys. */
    private static BatchPlans ofEveryKind(int batch, int memory) {
        BatchPlans x = new BatchPlans(batch, memory);
        for (int i = 0; i < 12; i++) {
            x.row(0, 5 * i % 9, i, i - 4);
        }
        for (int i = 0; i < 16; i++) {
            x.row(1, i % 6, i % 4, 3 * i);
        }
        x.scan(0);
        x.scan(1);
        x.filter(1, 2, 2, 5);
        x.map(0, 2, 2, 1);
        x.join(3, 2, 0, 0);
        x.group(4, 1, 5);
        x.join(5, 5, 1, 1);
        x.group(1, 2, 0);
        x.join(7, 0, 0, 1);
        x.map(4, 5, 2, 5);
        x.join(1, 1, 0, 0);
        x.filter(10, 5, 0, 30);
        return x;
    }

    /** "the outcome is as if there were no limit": each node under each memory with each batch */
    private static void outcomeIsAsIfThereWereNoLimit() {
        for (int n = 0; n < NODES; n++) {
            String want = outcome(ofEveryKind(16, 64), n);
            for (int i = 0; i < 16 * 64; i++) {
                int batch = 1 + i % 16;
                int memory = 1 + i / 16;
                note("8 9 batch " + batch + ", memory " + memory + ", node " + n,
                        outcome(ofEveryKind(batch, memory), n), want);
            }
        }
        BatchPlans least = ofEveryKind(1, 1);
        least.run(6);
        note("13 the least memory writes", Boolean.toString(least.written() > 0), "true");
        BatchPlans most = ofEveryKind(16, 64);
        most.run(6);
        due("13 the greatest does not", most::written, 0);
    }

    /** What the outcome is, worked out apart: a node's rows, and the sum of all cells, each times its column from 1. */
    private static void outcomeIsThatOfEachNode() {
        int[] rows = {12, 16, 14, 12, 20, 9, 53, 16, 4, 20, 44, 28};
        int[] sums = {228, 1164, 1152, 900, 5088, 1648, 28117, 500, 182, 98256, 9822, 4702};
        for (int n = 0; n < NODES; n++) {
            int node = n;
            BatchPlans x = ofEveryKind(3, 2);
            due("8 rows of node " + n, () -> x.run(node), rows[n]);
            due("9 cells of node " + n, () -> sumOfCells(x), sums[n]);
        }
    }

    private static int sumOfCells(BatchPlans x) {
        int rows = x.rows();
        int width = x.width();
        int sum = 0;
        for (int i = 0; i < rows * width; i++) {
            sum += (i % width + 1) * x.cell(i / width, i % width);
        }
        return sum;
    }

    private static String outcome(BatchPlans x, int node) {
        StringBuilder text = new StringBuilder(answerOf(() -> x.run(node)));
        int rows = x.rows();
        int width = x.width();
        text.append(" is ").append(rows).append('*').append(width).append(':');
        for (int i = 0; i < rows * width; i++) {
            text.append(' ').append(x.cell(i / width, i % width));
        }
        return text.toString();
    }

    /** "the outcome is as if there were no limit": what fails by one fails by all. */
    private static void failingIsAsIfThereWereNoLimit() {
        for (int memory = 1; memory <= 64; memory++) {
            for (int batch = 1; batch <= 16; batch++) {
                String what = "8 batch " + batch + ", memory " + memory + ", ";
                BatchPlans x = thatFails(batch, memory);
                x.run(4);
                String before = result(x);
                dueThrows(what + "join", () -> x.run(1), ISE);
                dueThrows(what + "map", () -> x.run(2), AE);
                dueThrows(what + "group", () -> x.run(3), AE);
                dueThrows(what + "node 1, a join, is before node 2, a map", () -> x.run(6), ISE);
                dueThrows(what + "node 2, a map, is before node 7, a join", () -> x.run(9), AE);
                note(what + "the result", result(x), before);
            }
        }
    }

    private static BatchPlans thatFails(int batch, int memory) {
        BatchPlans x = new BatchPlans(batch, memory);
        for (int i = 0; i < 12; i++) {
            x.row(0, 1, MAX, i);
        }
        x.scan(0);
        x.join(0, 0, 0, 0);
        x.map(0, 1, 0, 0);
        x.group(0, 0, 1);
        x.filter(0, 2, 0, 3);
        x.group(1, 0, 2);
        x.join(2, 5, 0, 0);
        x.join(0, 0, 0, 0);
        x.group(7, 0, 2);
        x.join(8, 2, 0, 0);
        return x;
    }

    /** "An object is used for at most 512 calls after it has been made": 32 times 16 calls, of every kind. */
    private static void the512thCallIsAnswered() {
        BatchPlans x = new BatchPlans(2, 1);
        for (int i = 0; i < CALLS / 16; i++) {
            int round = i;
            x.clear(true);
            due("2 in round " + i, () -> x.row(0, round, 1, 2 * round), 1);
            due("2 in round " + i, () -> x.row(0, round, 3, 4), 2);
            due("3 in round " + i, () -> x.scan(0), 0);
            due("4 in round " + i, () -> x.filter(0, 1, 2, 1), 1);
            due("5 in round " + i, () -> x.map(0, 1, 0, 2), 2);
            due("6 in round " + i, () -> x.join(1, 2, 0, 0), 3);
            due("7 in round " + i, () -> x.group(3, 0, 4), 4);
            due("8 in round " + i, () -> x.run(4), 1);
            due("10 in round " + i, x::rows, 1);
            due("11 in round " + i, x::width, 3);
            due("12 in round " + i, x::batches, 6);
            due("13 in round " + i, x::written, 3 * 3);
            due("14 in round " + i, x::held, 1);
            due("15 in round " + i, x::nodes, 5);
            due("9 in round " + i, () -> x.cell(0, 2), (1 + 2 * round) + (3 + 4));
        }
    }

    /** The dearest run, a full join that ten nodes read, is answered by the last call as by the first. */
    private static void runsDoNotWearAnObjectOut() {
        BatchPlans x = new BatchPlans(1, 1);
        int calls = 8 + 16 + NODES;
        int last = numbered(x, 8, 16);
        while (last < NODES - 1) {
            last = x.filter(last, 2, 2, -1);
        }
        int node = last;
        for (; calls < CALLS; calls++) {
            due("8 call " + calls, () -> x.run(node), 128);
        }
    }

    /** "A call that throws changes nothing.", however often it is called */
    private static void refusedCallsDoNotWearAnObjectOut() {
        BatchPlans asked = thatFails(3, 2);
        BatchPlans twin = thatFails(3, 2);
        asked.run(4);
        twin.run(4);
        for (int i = 0; i < 10; i++) {
            for (int node : FAILING) {
                note("8 node " + node + " fails", answerOf(() -> asked.run(node)).substring(0, 6), "throws");
            }
            dueThrows("2 table 3", () -> asked.row(3, 0, 0, 0), IAE);
            dueThrows("3 table 3", () -> asked.scan(3), IAE);
            dueThrows("4 test 3", () -> asked.filter(0, 0, 3, 0), IAE);
            dueThrows("5 operation 3", () -> asked.map(0, 0, 3, 0), IAE);
            dueThrows("6 nine columns", () -> asked.join(0, 1, 0, 0), ISE);
            dueThrows("7 column 3", () -> asked.group(0, 0, 3), IAE);
            dueThrows("9 column 3", () -> asked.cell(0, 3), IOOBE);
        }
        note("2 to 16 what is shown then", everything(asked), everything(twin));
    }

    /** What one object is asked is not seen by another one. */
    private static void objectsDoNotMeet() {
        BatchPlans one = new BatchPlans(1, 1);
        BatchPlans other = new BatchPlans(16, 64);
        for (int i = 0; i < 5; i++) {
            int next = i;
            due("2 row of one", () -> one.row(0, next, 0, 0), i + 1);
            due("2 row of the other", () -> other.row(0, 7, next, 0), i + 1);
        }
        one.group(one.scan(0), 0, 0);
        other.join(other.scan(0), other.scan(0), 0, 0);
        due("8 run of one", () -> one.run(1), 5);
        due("8 run of the other", () -> other.run(2), 25);
        // The keys 0 .. 4 are in the parts 0, 2, 0, 3 and 1, and 0 and 2 part at level 1.
        dueResult("10 to 14 one", one, 5, 3, 10, 5 + 2, 1);
        dueResult("10 to 14 the other", other, 25, 6, 4, 0, 5);
        other.clear(true);
        due("15 nodes of one", one::nodes, 2);
        due("8 run of one, once more", () -> one.run(1), 5);
        due("10 rows of the other", other::rows, 25);
    }
}
