import java.util.ArrayList;
import java.util.List;
import java.util.Map;
import java.util.TreeSet;

/** A house and the model beside it, through the same calls; every answer is compared. */
final class Twin {
    private final Check check;
    private final PaletteHouse house = new PaletteHouse();
    private String text;
    private Model model;
    private final List<Integer> fits = new ArrayList<>();
    private int painted = -1;
    private List<Model.Row> rows;
    private final List<Integer> input = new ArrayList<>();
    private Model.Run plain;
    private Model.Run coded;
    String tag = "";

    Twin(Check check) {
        this.check = check;
    }

    private void due(String call, long got, long want) {
        if (got != want && check.wrong() == 0) {
            System.out.println(tag + ", text:\n" + text);
        }
        check.due(tag + ": " + call, got, want);
    }

    boolean hasFunction() {
        return model != null;
    }

    void read(String next) {
        Check.feed(house, next);
        due("count(12)", house.count(12), next.length());
        Model other = new Model();
        int[] want = other.read(next);
        int got = house.read();
        if (got != want[0] || house.place() != want[1]) {
            System.out.println(tag + " reads:\n" + next);
        }
        due("read()", got, want[0]);
        due("place()", house.place(), want[1]);
        due("count(12)", house.count(12), 0);
        if (want[0] == 0) {
            text = next;
            model = other;
            fits.clear();
            painted = -1;
            rows = null;
            plain = null;
            coded = null;
        }
    }

    void input(int v) {
        int got = house.input(v);
        if (input.size() < 50) {
            input.add(v);
            due("input", got, input.size());
        } else {
            due("input", got, -1);
        }
    }

    void clear() {
        due("clear()", house.clear(), input.size());
        input.clear();
    }

    void colour(int how) {
        due("colour(" + how + ")", house.colour(how), model == null ? -1 : model.colour(how));
        if (model != null) {
            painted = how;
            rows = null;
        }
    }

    void lower() {
        rows = painted < 0 ? null : model.code();
        due("lower()", house.lower(), rows == null ? -1 : rows.size());
    }

    int fit(int k) {
        int got = house.fit(k);
        if (model == null) {
            due("fit", got, -1);
            return -1;
        }
        int want = model.fit(k);
        due("fit(" + k + ")", got, want);
        if (want >= 0) {
            fits.add(k);
            painted = -1;
            for (Model.Value v : model.values) {
                v.colour = -1;
            }
            rows = null;
        } else {
            restore();
        }
        return want;
    }

    /** The model is spoilt by a fit that fails; its rows are as they were. */
    private void restore() {
        model = new Model();
        model.read(text);
        for (int k : fits) {
            model.fit(k);
        }
        if (painted >= 0) {
            model.colour(painted);
        }
    }

    void run(boolean code, int fuel) {
        int got = house.run(code, fuel);
        if (model == null || code && rows == null) {
            due("run", got, -1);
            return;
        }
        Model.Run run = code ? model.runCode(rows, input, fuel) : model.runFunction(input, fuel);
        due("run(" + code + "," + fuel + ")", got, run.stop);
        if (code) {
            coded = run;
        } else {
            plain = run;
        }
    }

    void compareRuns() {
        compareRun(false, plain);
        compareRun(true, coded);
    }

    private void compareRun(boolean code, Model.Run run) {
        int[] want = run == null ? new int[] {-1, -1, -1, -1, -1}
            : new int[] {run.stop, run.steps, run.returned, run.output.size(), run.taken};
        for (int what = 0; what < 5; what++) {
            due("told(" + code + "," + what + ")", house.told(code, what), want[what]);
        }
        int n = run == null ? 0 : Math.min(100, run.output.size());
        for (int i = 0; i < n; i++) {
            due("output " + i, house.output(code, i), run.output.get(i));
        }
        due("output " + n, house.output(code, n), 0);
        for (int a = -1; a <= 64; a++) {
            due("memory " + a, house.memory(code, a), run == null || a < 0 || a > 63 ? 0 : run.memory[a]);
        }
    }

    void compare() {
        compareCounts();
        if (model == null) {
            return;
        }
        Map<String, TreeSet<Integer>> living = model.living();
        compareBlocks();
        compareValues(living);
        comparePoints(living);
        compareMeetings(living);
        compareRows();
    }

    private void compareCounts() {
        int blocks = model == null ? 0 : model.blocks.size();
        int phis = 0;
        for (int b = 0; b < blocks; b++) {
            phis += model.blocks.get(b).phis.size();
        }
        due("count 0", house.count(0), blocks);
        due("count 1", house.count(1), model == null ? 0 : model.values.size());
        due("count 2", house.count(2), model == null ? 0 : model.insCount());
        due("count 3", house.count(3), phis);
        due("count 4", house.count(4), model == null ? 0 : Model.maxLive(model.living()));
        due("count 5", house.count(5), model == null ? 0 : model.insCount() + blocks);
        due("count 6", house.count(6), model == null ? 0 : model.slots);
    }

    private void compareBlocks() {
        List<Model.Block> order = model.order();
        for (int b = 0; b < model.blocks.size(); b++) {
            Model.Block block = model.blocks.get(b);
            int[] want = {model.blocks.indexOf(model.idom(block)), order.indexOf(block), block.ins.size(),
                block.phis.size(), block.preds.size(), Model.OPS.indexOf(block.end) - 19};
            for (int what = 0; what < 6; what++) {
                due("block(" + b + "," + what + ")", house.block(b, what), want[what]);
            }
            for (int i = 1; i <= block.ins.size(); i++) {
                compareIns(b, i, block.ins.get(i - 1));
            }
            due("ins behind", house.ins(b, block.ins.size() + 1, 0), -1);
        }
        due("block behind", house.block(model.blocks.size(), 1), -1);
    }

    private void compareIns(int b, int i, Model.Ins ins) {
        int[] want = {Model.OPS.indexOf(ins.op), model.values.indexOf(ins.result), -1, 0, -1, 0};
        for (int n = 0; n < ins.vals.size(); n++) {
            Model.Val val = ins.vals.get(n);
            want[2 + 2 * n] = val.value == null ? -1 : model.values.indexOf(val.value);
            want[3 + 2 * n] = val.value == null ? val.number : 0;
        }
        if (want[0] >= 25) {
            want[3] = ins.slot;
        }
        for (int what = 0; what < 6; what++) {
            due("ins(" + b + "," + i + "," + what + ")", house.ins(b, i, what), want[what]);
        }
    }

    private void compareValues(Map<String, TreeSet<Integer>> living) {
        for (int v = 0; v < model.values.size(); v++) {
            Model.Value value = model.values.get(v);
            int points = 0;
            for (TreeSet<Integer> set : living.values()) {
                points += set.contains(v) ? 1 : 0;
            }
            int[] want = {model.blocks.indexOf(value.home), model.pointOf(value), model.usesOf(value), value.colour,
                value.slot, points};
            for (int what = 0; what < 6; what++) {
                due("value(" + v + "," + what + ")", house.value(v, what), want[what]);
            }
        }
    }

    private void comparePoints(Map<String, TreeSet<Integer>> living) {
        for (int b = 0; b < model.blocks.size(); b++) {
            int size = model.blocks.get(b).ins.size();
            for (int i = 0; i <= size; i++) {
                TreeSet<Integer> here = living.get(b + "," + i);
                due("pressure(" + b + "," + i + ")", house.pressure(b, i), here.size());
                for (int v = -1; v <= model.values.size(); v++) {
                    due("live(" + b + "," + i + "," + v + ")", house.live(b, i, v) ? 1 : 0, here.contains(v) ? 1 : 0);
                }
            }
            due("pressure behind", house.pressure(b, size + 1), -1);
        }
        int i = 0;
        for (int v : Model.firstClique(living)) {
            due("clique(" + i + ")", house.clique(i), v);
            i++;
        }
        due("clique(" + i + ")", house.clique(i), -1);
    }

    private void compareMeetings(Map<String, TreeSet<Integer>> living) {
        int n = model.values.size();
        boolean[][] meet = new boolean[n][n];
        for (TreeSet<Integer> set : living.values()) {
            for (int u : set) {
                for (int v : set) {
                    meet[u][v] = u != v;
                }
            }
        }
        int pairs = 0;
        for (int u = 0; u < n; u++) {
            for (int v = 0; v < n; v++) {
                due("meet(" + u + "," + v + ")", house.meet(u, v) ? 1 : 0, meet[u][v] ? 1 : 0);
                pairs += meet[u][v] && u < v ? 1 : 0;
            }
        }
        due("count 11", house.count(11), pairs);
    }

    private void compareRows() {
        int[] ops = new int[27];
        int n = rows == null ? 0 : rows.size();
        for (int r = 0; r < n; r++) {
            ops[rows.get(r).cells[0]]++;
            for (int what = 0; what < 8; what++) {
                due("code(" + r + "," + what + ")", house.code(r, what), rows.get(r).cells[what]);
            }
        }
        due("code behind", house.code(n, 0), -1);
        due("count 7", house.count(7), n);
        due("count 8", house.count(8), ops[22]);
        due("count 9", house.count(9), ops[23]);
        due("count 10", house.count(10), ops[24]);
    }

    /** Calls that are refused in any state; what they leave is seen by the next comparison. */
    void refused() {
        int[] far = {Integer.MIN_VALUE, Integer.MIN_VALUE + 1, -2, -1, Integer.MAX_VALUE, Integer.MAX_VALUE - 1};
        for (int n : far) {
            due("fit(" + n + ")", house.fit(n), -1);
            due("colour(" + n + ")", house.colour(n), -1);
            due("run(" + n + ")", house.run(false, n), -1);
            due("run(" + n + ")", house.run(true, n), -1);
            due("back(" + n + ")", house.back(n), -1);
            due("block(" + n + ")", house.block(n, 0), -1);
            due("block(0," + n + ")", house.block(0, n), -1);
            due("value(" + n + ")", house.value(n, 0), -1);
            due("value(0," + n + ")", house.value(0, n), -1);
            due("ins(" + n + ")", house.ins(n, 1, 0), -1);
            due("ins(0," + n + ")", house.ins(0, n, 0), -1);
            due("ins(0,1," + n + ")", house.ins(0, 1, n), -1);
            due("live(" + n + ")", house.live(n, 0, 0) ? 1 : 0, 0);
            due("live(0," + n + ")", house.live(0, n, 0) ? 1 : 0, 0);
            due("live(0,0," + n + ")", house.live(0, 0, n) ? 1 : 0, 0);
            due("pressure(" + n + ")", house.pressure(n, 0), -1);
            due("pressure(0," + n + ")", house.pressure(0, n), -1);
            due("clique(" + n + ")", house.clique(n), -1);
            due("meet(" + n + ",0)", house.meet(n, 0) ? 1 : 0, 0);
            due("meet(0," + n + ")", house.meet(0, n) ? 1 : 0, 0);
            due("meet(" + n + "," + n + ")", house.meet(n, n) ? 1 : 0, 0);
            due("code(" + n + ")", house.code(n, 0), -1);
            due("code(0," + n + ")", house.code(0, n), -1);
            due("told(" + n + ")", house.told(true, n), -1);
            due("told(" + n + ")", house.told(false, n), -1);
            due("output(" + n + ")", house.output(true, n), 0);
            due("output(" + n + ")", house.output(false, n), 0);
            due("memory(" + n + ")", house.memory(true, n), 0);
            due("memory(" + n + ")", house.memory(false, n), 0);
            due("count(" + n + ")", house.count(n), -1);
        }
        due("fit(0)", house.fit(0), -1);
        due("fit(151)", house.fit(151), -1);
        due("colour(2)", house.colour(2), -1);
        due("run(0)", house.run(true, 0), -1);
        due("run(5001)", house.run(false, 5001), -1);
    }

    /** What must hold of each run, whatever the function: its code does the same as the function. */
    void sameRuns() {
        if (plain == null || coded == null) {
            return;
        }
        for (int what = 0; what < 5; what++) {
            due("code told as the function " + what, house.told(true, what), house.told(false, what));
        }
    }
}
