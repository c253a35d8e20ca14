/**
 * Batches, and what is held, written and parted: every sentence that names an edge has a method of its own.
 *
 * <p>The bits 31 .. 26 of key * 0x9E3779B1, two for each level, of the keys that are used here:
 * <pre>
 *   0, 34, 89, 178  00 00 00     1   10 01 11
 *   68              00 00 01     2   00 11 11
 *   13              00 00 10     3   11 01 10
 *   26              00 01 00     4   01 11 10
 *   52              00 10 00     7   01 01 00
 *                               38   01 11 11
 * </pre>
 */
public final class MemoryTest extends PlanCheck {
    private static final int[] NONE = {};

    public static void main(String[] args) {
        batchIsOneToSixteen();
        memoryIsAtLeastOne();
        memoryIsAtMostSixtyFour();
        lastBatchMayBeShorter();
        noRowsAreNoBatch();
        everyReadingIsInBatches();
        joinOfNoRowsIsNothingToDo();
        joinHoldsWhatFits();
        joinWritesAllRowsOfBoth();
        joinOfAPartIsAtTheNextLevel();
        joinOfAPartWithNoRowsIsNothingToDo();
        joinAtLevelThreeHoldsAndWritesNothing();
        groupOfNoRowsIsNothingToDo();
        groupHoldsWhatFits();
        groupWritesAllItsRows();
        groupOfAPartIsAtTheNextLevel();
        groupAtLevelThreeHoldsAndWritesNothing();
        partIsTwoBitsALevel();
        partWrapsAround();
        aRowIsWrittenByEachThatWritesIt();
        heldIsTheMostOfAllAtATime();
        end();
    }

    /** "B is batch, but at least 1 and at most 16": 17 rows tell 16 from 17. */
    private static void batchIsOneToSixteen() {
        int[][] asked = {{MIN, 1}, {-1, 1}, {0, 1}, {1, 1}, {2, 2}, {15, 15}, {16, 16}, {17, 16}, {MAX, 16}};
        for (int[] ask : asked) {
            BatchPlans x = new BatchPlans(ask[0], 64);
            keysOf(x, 0, 7, 7, 7, 7, 8);
            x.scan(0);
            x.join(0, 0, 0, 0);
            x.filter(1, 0, 2, MIN);
            due("1 batch " + ask[0] + ", run", () -> x.run(2), 17);
            int small = batchesOf(5, ask[1]);
            due("1 batch " + ask[0] + ", batches", x::batches, 3 * small + batchesOf(17, ask[1]));
        }
    }

    private static int batchesOf(int rows, int batch) {
        return rows / batch + (rows % batch == 0 ? 0 : 1);
    }

    /** "M is memory, but at least 1": two keys in different parts tell 1 from 2. */
    private static void memoryIsAtLeastOne() {
        for (int memory : new int[] {MIN, -1, 0, 1}) {
            dueGroup("1 memory " + memory, memory, new int[] {1, 2}, 2, 1);
            dueJoin("1 memory " + memory, memory, new int[] {1}, new int[] {1, 2}, 3, 1);
        }
        dueGroup("1 memory 2", 2, new int[] {1, 2}, 0, 2);
        dueJoin("1 memory 2", 2, new int[] {1}, new int[] {1, 2}, 0, 2);
    }

    /** "and at most 64": 64 and 65 keys tell 64 from 63 and from 65. */
    private static void memoryIsAtMostSixtyFour() {
        // At level 0 the fullest part has 17 of the keys 0 .. 62, of 0 .. 63, and of 0 .. 64.
        dueGroupOfPairs(63, 9, 7, 0, 63);
        dueGroupOfPairs(63, 8, 8, 64, 17);
        for (int memory : new int[] {64, 65, MAX}) {
            dueGroupOfPairs(memory, 8, 8, 0, 64);
            dueGroupOfPairs(memory, 13, 5, 65, 17);
        }
    }

    private static void dueGroupOfPairs(int memory, int first, int second, int written, int held) {
        String what = "1 memory " + memory + ", " + first * second + " keys";
        BatchPlans x = new BatchPlans(16, memory);
        int keys = x.group(numbered(x, first, second), 2, 0);
        due(what, () -> x.run(keys), first * second);
        dueCosts(what, x, written, held);
        // A join with these keys on its right side, 0 on its left one: part 0 has 17 of them.
        x.row(2, 0, 0, 0);
        int joined = x.join(x.scan(2), keys, 0, 0);
        due(what + " on the right", () -> x.run(joined), 1);
        dueCosts(what + " on the right", x, written == 0 ? 0 : 2 * written + 1, held);
    }

    /** "in BATCHES of B rows, the last one perhaps shorter": each B with each number of rows. */
    private static void lastBatchMayBeShorter() {
        for (int b = 1; b <= 16; b++) {
            BatchPlans x = new BatchPlans(b, 1);
            x.scan(0);
            for (int n = 1; n <= 16; n++) {
                x.row(0, n, n, n);
                x.run(0);
                due("12 " + n + " rows by " + b, x::batches, batchesOf(n, b));
            }
        }
    }

    /** "of no rows there is no batch" */
    private static void noRowsAreNoBatch() {
        BatchPlans x = new BatchPlans(4, 4);
        fill(x, 1, 5);
        x.scan(0);
        x.scan(1);
        x.filter(1, 0, 0, MIN);
        int[][] asked = {{x.filter(0, 0, 0, 0), 0}, {x.map(0, 0, 0, 0), 0}, {x.group(0, 0, 0), 0},
            {x.join(0, 0, 0, 0), 0}, {x.join(0, 1, 0, 0), 4}, {x.join(1, 0, 0, 0), 4}, {x.map(2, 0, 0, 0), 4},
            {x.join(2, 2, 0, 0), 4}};
        x.run(0);
        due("12 a scan of no rows", x::batches, 0);
        for (int[] ask : asked) {
            due("12 run " + ask[0], () -> x.run(ask[0]), 0);
            due("12 batches of node " + ask[0], x::batches, ask[1]);
        }
    }

    /** "each reads the outputs of the nodes that it is made of (...; a join of a node with itself reads it twice)" */
    private static void everyReadingIsInBatches() {
        BatchPlans x = new BatchPlans(4, 64);
        fill(x, 0, 9);
        fill(x, 1, 8);
        x.scan(0);
        x.scan(1);
        int[][] asked = {{x.filter(0, 0, 0, 6), 3 + 3}, {x.map(2, 0, 0, 0), 3 + 3 + 2}, {x.group(2, 0, 0), 3 + 3 + 2},
            {x.join(2, 1, 0, 0), 3 + 3 + 2 + 2 + 2}, {x.join(1, 2, 0, 0), 3 + 3 + 2 + 2 + 2},
            {x.group(5, 0, 0), 3 + 3 + 2 + 2 + 2 + 2}, {x.join(0, 0, 0, 0), 3 + 3 + 3},
            {x.join(3, 4, 0, 0), 3 + 3 + 2 + 2 + 2 + 2}};
        for (int[] ask : asked) {
            x.run(ask[0]);
            due("12 batches of node " + ask[0], x::batches, ask[1]);
        }
    }

    /** "To join two sets of rows at a level, first 0: when one of them has no rows, there is nothing to do." */
    private static void joinOfNoRowsIsNothingToDo() {
        int[] many = {1, 2, 3, 4};
        dueJoin("no rows on the left", 1, NONE, many, 0, 0);
        dueJoin("no rows on the right", 1, many, NONE, 0, 0);
        dueJoin("no rows at all", 1, NONE, NONE, 0, 0);
    }

    /** "When the right one has at most M rows, ...": as many as M, one fewer, and one more. */
    private static void joinHoldsWhatFits() {
        int[] left = {1, 2, 3, 4, 7};
        dueJoin("one of two", 2, left, new int[] {1}, 0, 1);
        dueJoin("two of two", 2, left, new int[] {1, 2}, 0, 2);
        dueJoin("two of two that have no pair", 2, left, new int[] {13, 13}, 0, 2);
        dueJoin("three of two", 2, left, new int[] {1, 2, 3}, 5 + 3, 1);
        dueJoin("two left rows, five right ones", 2, new int[] {1, 2}, left, 2 + 5, 1);
        dueJoin("two equal ones are two rows", 1, new int[] {1}, new int[] {1, 1}, 3 * 3, 1);
    }

    /** "Otherwise all rows of both are WRITTEN, and parted": those without a pair too. */
    private static void joinWritesAllRowsOfBoth() {
        dueJoin("nothing meets in any part", 2, new int[] {4, 4, 4}, new int[] {1, 2, 3}, 3 + 3, 0);
        dueJoin("one part meets", 2, new int[] {4, 4, 1}, new int[] {1, 2, 3}, 3 + 3, 1);
        dueJoin("one part meets without a pair", 2, new int[] {4, 4, 0}, new int[] {1, 2, 3}, 3 + 3, 1);
    }

    /** "each of the four parts (its rows of the left and of the right one) is joined at the next level" */
    private static void joinOfAPartIsAtTheNextLevel() {
        dueJoin("fits at level 1", 2, new int[] {0}, new int[] {0, 26, 1}, 4, 2);
        dueJoin("parted at level 1", 2, new int[] {52}, new int[] {0, 26, 52}, 4 + 4, 1);
        dueJoin("fits at level 2", 2, new int[] {68}, new int[] {0, 68, 26}, 4 + 4, 2);
        dueJoin("parted at level 2", 2, new int[] {13}, new int[] {0, 68, 13}, 4 + 4 + 4, 1);
        dueJoin("all four parts, one right row each", 2, new int[] {1, 2, 3, 4}, new int[] {1, 2, 3, 4}, 8, 1);
        dueJoin("all four parts, two in the last", 2, new int[] {1, 2, 3, 4}, new int[] {1, 2, 3, 3}, 8, 2);
        dueJoin("two parts are parted again", 1, new int[] {0, 4}, new int[] {0, 26, 4, 7}, 6 + 3 + 3, 1);
    }

    /** "when one of them has no rows, there is nothing to do" at the levels 1, 2 and 3 */
    private static void joinOfAPartWithNoRowsIsNothingToDo() {
        dueJoin("left rows alone in a part at level 1", 2, new int[] {0, 4, 4}, new int[] {0, 26, 52}, 6 + 4, 1);
        dueJoin("right rows alone in a part at level 1", 2, new int[] {1}, new int[] {0, 26, 52, 1}, 5, 1);
        dueJoin("right rows alone at level 2", 2, new int[] {52}, new int[] {0, 68, 13, 52}, 5 + 5, 1);
        dueJoin("left rows alone at level 2", 2, new int[] {26, 0}, new int[] {0, 68, 13}, 5 + 5 + 4, 1);
        dueJoin("right rows alone at level 3", 2, new int[] {68}, new int[] {0, 34, 68}, 4 + 4 + 4, 1);
        dueJoin("left rows alone at level 3", 2, new int[] {13}, new int[] {0, 34, 68}, 4 + 4 + 4, 0);
    }

    /** "..., or the level is 3, M or fewer rows of the right one are HELD at a time until all were" */
    private static void joinAtLevelThreeHoldsAndWritesNothing() {
        dueJoin("as many as M", 2, new int[] {0}, new int[] {0, 34, 68}, 4 + 4 + 4, 2);
        dueJoin("one more than M", 2, new int[] {0}, new int[] {0, 34, 89}, 4 + 4 + 4, 2);
        dueJoin("twice M, and none has a pair", 2, new int[] {178}, new int[] {0, 0, 34, 89}, 5 + 5 + 5, 2);
        dueJoin("one key", 2, new int[] {7, 7}, new int[] {7, 7, 7, 7, 7}, 7 + 7 + 7, 2);
        dueJoin("one at a time", 1, new int[] {7}, new int[] {7, 7, 7}, 4 + 4 + 4, 1);
        dueJoin("three of four", 3, new int[] {0}, new int[] {0, 34, 89, 178}, 5 + 5 + 5, 3);
    }

    /** "To group a set of rows at a level, first 0: when it has no rows, there is nothing to do." */
    private static void groupOfNoRowsIsNothingToDo() {
        dueGroup("no rows", 1, NONE, 0, 0);
    }

    /** "When there are at most M different keys, ...": rows do not matter, and the edges are as those of a join. */
    private static void groupHoldsWhatFits() {
        dueGroup("one of two", 2, new int[] {1, 1, 1, 1}, 0, 1);
        dueGroup("two of two", 2, new int[] {1, 2, 1, 2, 1}, 0, 2);
        dueGroup("three of two", 2, new int[] {1, 2, 3}, 3, 1);
    }

    /** "Otherwise all its rows are WRITTEN, and parted": rows, not keys. */
    private static void groupWritesAllItsRows() {
        dueGroup("equal keys are written row by row", 2, new int[] {1, 1, 1, 2, 3, 3}, 6, 1);
        dueGroup("and so at the next level", 2, new int[] {0, 0, 26, 52, 1, 1}, 6 + 4, 1);
    }

    /** "each part is grouped at the next level" */
    private static void groupOfAPartIsAtTheNextLevel() {
        dueGroup("fits at level 1", 2, new int[] {0, 26, 1}, 3, 2);
        dueGroup("parted at level 1", 2, new int[] {0, 26, 52}, 3 + 3, 1);
        dueGroup("fits at level 2", 2, new int[] {0, 68, 26}, 3 + 3, 2);
        dueGroup("parted at level 2", 2, new int[] {0, 68, 13}, 3 + 3 + 3, 1);
        dueGroup("all four parts", 2, new int[] {1, 2, 3, 4}, 4, 1);
        dueGroup("two parts are parted again", 1, new int[] {0, 26, 4, 7}, 4 + 2 + 2, 1);
    }

    /** "..., or the level is 3, the most held at a time are the lesser one of M and how many different keys" */
    private static void groupAtLevelThreeHoldsAndWritesNothing() {
        dueGroup("as many as M", 2, new int[] {0, 34, 68}, 3 + 3 + 3, 2);
        dueGroup("one more than M", 2, new int[] {0, 34, 89}, 3 + 3 + 3, 2);
        dueGroup("one at a time", 1, new int[] {0, 34}, 2 + 2 + 2, 1);
        dueGroup("three of four", 3, new int[] {0, 34, 89, 178, 0}, 5 + 5 + 5, 3);
    }

    /** "the two bits 30 and 31, 28 and 29, 26 and 27": keys whose product is one bit alone, beside the key 0. */
    private static void partIsTwoBitsALevel() {
        int[] levels = {0, 0, 1, 1, 2, 2};
        for (int i = 0; i < levels.length; i++) {
            int bit = 31 - i;
            int written = 2 * (levels[i] + 1);
            dueGroup("bit " + bit, 1, new int[] {0, keyOfBit(bit)}, written, 1);
            // The bits 24 and 25 part nothing: their keys stay with 0, and fit when the fourth one has left them.
            dueGroup("bit " + bit + " beside 24 and 25", 3, new int[] {0, keyOfBit(24), keyOfBit(25), keyOfBit(bit)},
                    4 * (levels[i] + 1), 3);
        }
        dueGroup("bits 31 and 30", 2, new int[] {0, keyOfBit(31), keyOfBit(30)}, 3, 1);
        dueGroup("bits 29 and 28", 2, new int[] {0, keyOfBit(29), keyOfBit(28)}, 3 + 3, 1);
        dueGroup("bits 27 and 26", 2, new int[] {0, keyOfBit(27), keyOfBit(26)}, 3 + 3 + 3, 1);
        dueGroup("bits 25 and 24", 2, new int[] {0, keyOfBit(25), keyOfBit(24)}, 3 + 3 + 3, 2);
    }

    /** 244002641 * 0x9E3779B1 is 1, wrapping. */
    private static int keyOfBit(int bit) {
        return 244002641 << bit;
    }

    /** "of key * 0x9E3779B1 (wrapping)": -1 gives 01 10 00, MAX 11 10 00, MIN 10 00 00, -2 11 00 00, 1 << 16 01 11 10. */
    private static void partWrapsAround() {
        dueGroup("-1 and 4 are in part 1", 2, new int[] {-1, 4, 1, 2}, 4, 2);
        dueGroup("-1, 4 and 7 part at level 1", 2, new int[] {-1, 4, 7}, 3 + 3, 1);
        dueGroup("MAX and 3 are in part 3", 2, new int[] {MAX, 3, 1, 0}, 4, 2);
        dueGroup("MAX, 3 and -2 part at level 1", 2, new int[] {MAX, 3, -2}, 3 + 3, 1);
        dueGroup("MIN and 1 are in part 2", 2, new int[] {MIN, 1, 0, 4}, 4, 2);
        dueGroup("MIN and 1 part at level 1", 1, new int[] {MIN, 1}, 2 + 2, 1);
        dueGroup("65536 and 4 never part", 1, new int[] {1 << 16, 4}, 2 + 2 + 2, 1);
        dueGroup("65536 and 4 are held together at level 3", 2, new int[] {1 << 16, 4, 38}, 3 + 3 + 3, 2);
        dueJoin("1 << 28 and 0 part by the factor's last digit", 1, new int[] {0}, new int[] {0, 1 << 28}, 3 + 3, 1);
    }

    /** "a row counts each time that it was" */
    private static void aRowIsWrittenByEachThatWritesIt() {
        BatchPlans x = new BatchPlans(16, 1);
        keysOf(x, 0, 1, 2, 3, 4);
        x.scan(0);
        x.group(0, 0, 0);
        x.group(1, 0, 0);
        x.join(1, 2, 0, 0);
        due("13 run", () -> x.run(3), 4);
        dueCosts("13 two groups of 4 and a join of 4 and 4", x, 4 + 4 + 8, 1);
        x.run(1);
        dueCosts("13 the first group alone", x, 4, 1);
        x.run(1);
        dueCosts("13 and once more", x, 4, 1);
    }

    /** "The most rows that a join, or keys that a group, held at a time in the run": not their sum, not the last. */
    private static void heldIsTheMostOfAllAtATime() {
        BatchPlans x = new BatchPlans(16, 9);
        fill(x, 0, 6);
        fill(x, 1, 4);
        x.scan(0);
        x.scan(1);
        int[][] asked = {{0, 0}, {x.join(0, 1, 0, 0), 4}, {x.join(1, 0, 0, 0), 6}, {x.group(2, 0, 0), 4},
            {x.group(3, 0, 0), 6}, {x.group(0, 0, 2), 6}, {x.group(0, 2, 0), 1}, {x.filter(7, 0, 2, 0), 1},
            {x.join(0, 8, 0, 0), 1}, {x.join(6, 8, 0, 0), 6}, {1, 0}};
        for (int[] ask : asked) {
            x.run(ask[0]);
            dueCosts("14 held by node " + ask[0], x, 0, ask[1]);
        }
    }

    private static void dueJoin(String what, int memory, int[] left, int[] right, int written, int held) {
        BatchPlans x = new BatchPlans(16, memory);
        keysOf(x, 0, left);
        keysOf(x, 1, right);
        x.join(x.scan(0), x.scan(1), 0, 0);
        due("8 join: " + what, () -> x.run(2), equalPairs(left, right));
        dueCosts("13 14 join: " + what, x, written, held);
    }

    private static int equalPairs(int[] left, int[] right) {
        int many = 0;
        for (int l : left) {
            for (int r : right) {
                many += l == r ? 1 : 0;
            }
        }
        return many;
    }

    private static void dueGroup(String what, int memory, int[] keys, int written, int held) {
        BatchPlans x = new BatchPlans(16, memory);
        keysOf(x, 0, keys);
        x.group(x.scan(0), 0, 1);
        due("8 group: " + what, () -> x.run(1), java.util.Arrays.stream(keys).distinct().count());
        dueCosts("13 14 group: " + what, x, written, held);
    }
}
