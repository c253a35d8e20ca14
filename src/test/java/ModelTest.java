import java.util.TreeMap;

/** Runs of drawn calls, as many as an object is used for, each answered by the program as by the model. */
public final class ModelTest {
    private static final int OBJECTS = 8000;
    private static final int CALLS = 512;
    private static final int CELLS_OF_A_LOOK = 24;
    private static final int[] EDGES = {Integer.MIN_VALUE, Integer.MAX_VALUE, -1, 1 << 16, -(1 << 15), 46341};

    private static final String[] RARE = {"run throws.ArithmeticException", "run throws.IllegalStateException",
        "run throws.IllegalArgumentException", "join throws.IllegalStateException", "row throws.IllegalStateException",
        "scan throws.IllegalStateException", "written", "128 rows"};

    private final Draw draw;
    private final String name;
    private final BatchPlans plans;
    private final Model model;
    private final TreeMap<String, Integer> met;
    private final int keys;
    private final int runsForALook;
    private int calls = 0;

    private ModelTest(int seed, TreeMap<String, Integer> met) {
        draw = new Draw(seed);
        int batch = draw.below(20) - 1;
        int memory = draw.below(3) == 0 ? draw.below(70) : draw.below(5);
        name = "object " + seed + " (" + batch + ", " + memory + ") ";
        plans = new BatchPlans(batch, memory);
        model = new Model(batch, memory);
        keys = 1 + draw.below(draw.below(2) == 0 ? 4 : 24);
        runsForALook = 1 + draw.below(8);
        this.met = met;
    }

    public static void main(String[] args) {
        TreeMap<String, Integer> met = new TreeMap<>();
        for (int seed = 1; seed <= OBJECTS && Check.wrongSoFar() < 20; seed++) {
            new ModelTest(seed, met).callAll();
        }
        System.out.println(met);
        for (String rare : RARE) {
            Check.note(rare + " is met", Boolean.toString(met.containsKey(rare)), "true");
        }
        Check.end();
    }

    private void callAll() {
        while (calls < CALLS) {
            int kind = draw.below(100);
            callOne(kind >= 58 && model.nodes() < draw.below(12) ? draw.below(58) : kind);
        }
    }

    private void callOne(int kind) {
        if (kind < 22) {
            int table = choice(3);
            int a = number();
            int b = number();
            int c = number();
            same("row", () -> plans.row(table, a, b, c), () -> model.row(table, a, b, c));
        } else if (kind < 30) {
            int table = choice(3);
            same("scan", () -> plans.scan(table), () -> model.scan(table));
        } else if (kind < 58) {
            addNode(kind);
        } else if (kind < 96) {
            int node = draw.below(20) == 0 ? choice(12) : model.nodes() - 1 - draw.below(3);
            same("run", () -> plans.run(node), () -> model.run(node));
            lookAtTimes();
        } else if (kind < 98) {
            int k = choice(130);
            int c = choice(6);
            same("cell", () -> plans.cell(k, c), () -> model.cell(k, c));
        } else {
            boolean tables = draw.below(2) == 0;
            same("clear", () -> cleared(tables), () -> 0);
            model.clear(tables);
            lookAtTimes();
        }
    }

    private void addNode(int kind) {
        int node = model.nodes() == 0 ? choice(3) : draw.below(25) == 0 ? choice(12) : draw.below(model.nodes());
        int other = model.nodes() == 0 ? choice(3) : draw.below(model.nodes());
        int column = draw.below(25) == 0 ? choice(6) : draw.below(3);
        int second = draw.below(3) == 0 ? choice(6) : draw.below(3);
        int kindOf = choice(3);
        int number = number();
        if (kind < 34) {
            same("filter", () -> plans.filter(node, column, kindOf, number),
                    () -> model.filter(node, column, kindOf, number));
        } else if (kind < 40) {
            same("map", () -> plans.map(node, column, kindOf, second), () -> model.map(node, column, kindOf, second));
        } else if (kind < 49) {
            same("join", () -> plans.join(node, other, column, second), () -> model.join(node, other, column, second));
        } else {
            same("group", () -> plans.group(node, column, second), () -> model.group(node, column, second));
        }
    }

    private int cleared(boolean tables) {
        plans.clear(tables);
        return 0;
    }

    /** A look takes many calls, and an object has only so many: where looks are rare, plans and tables grow. */
    private void lookAtTimes() {
        if (draw.below(runsForALook) == 0) {
            compareResults();
        }
    }

    private void compareResults() {
        same("rows", plans::rows, model::rows);
        same("width", plans::width, model::width);
        same("batches", plans::batches, model::batches);
        same("written", plans::written, model::written);
        same("held", plans::held, model::held);
        same("nodes", plans::nodes, model::nodes);
        int cells = model.rows() * model.width();
        for (int i = 0; i < Math.min(cells, CELLS_OF_A_LOOK); i++) {
            int place = cells > CELLS_OF_A_LOOK ? draw.below(cells) : i;
            int row = place / model.width();
            int column = place % model.width();
            same("cell", () -> plans.cell(row, column), () -> model.cell(row, column));
        }
        count(model.written() > 0, "written");
        count(model.rows() == 128, "128 rows");
    }

    private void same(String call, Check.Call got, Check.Call want) {
        if (calls >= CALLS) {
            return;
        }
        calls++;
        String due = Check.answerOf(want);
        count(due.startsWith("throws"), call + " " + due);
        Check.note(name + call, Check.answerOf(got), due);
    }

    private void count(boolean isMet, String what) {
        if (isMet) {
            met.merge(what, 1, Integer::sum);
        }
    }

    /** Nearly always one of 0 .. many - 1, at times just outside. */
    private int choice(int many) {
        int outside = draw.below(60);
        return outside == 0 ? -1 : outside == 1 ? many : outside == 2 ? Integer.MIN_VALUE : draw.below(many);
    }

    private int number() {
        int kind = draw.below(400);
        return kind < 2 ? EDGES[draw.below(EDGES.length)] : kind < 12 ? draw.next() : draw.below(keys) - keys / 4;
    }

    /** Always the same numbers for the same seed. */
    private static final class Draw {
        private long state;

        Draw(int seed) {
            state = seed * 0x9E3779B97F4A7C15L;
        }

        int next() {
            state = state * 6364136223846793005L + 1442695040888963407L;
            return (int) (state >>> 32);
        }

        int below(int bound) {
            return (int) ((next() & 0xFFFFFFFFL) * bound >>> 32);
        }
    }
}
