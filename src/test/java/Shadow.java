import java.util.ArrayList;
import java.util.List;
import java.util.Map;
import java.util.TreeSet;

/** The whole face once more, over the model: what each call has to answer, whatever its arguments and the state. */
final class Shadow {
    private static final int NONE = -1;

    private final StringBuilder tape = new StringBuilder();
    private final List<Integer> input = new ArrayList<>();
    private final List<Integer> fits = new ArrayList<>();
    private int place = NONE;
    private String text;
    private Model model;
    private int painted = NONE;
    private List<Model.Row> rows;
    private Model.Run plain;
    private Model.Run coded;
    // Of the model as it is now; null when it has changed.
    private Map<String, TreeSet<Integer>> living;

    int feed(int a, int b, int c, int d, int e) {
        if (tape.length() > 3980) {
            return NONE;
        }
        for (int four : new int[] {a, b, c, d, e}) {
            for (int n = 3; n >= 0; n--) {
                tape.append((char) (four >>> 8 * n & 255));
            }
        }
        return tape.length();
    }

    int back(int n) {
        if (n < 0 || n > tape.length()) {
            return NONE;
        }
        tape.setLength(tape.length() - n);
        return tape.length();
    }

    int read() {
        String next = tape.toString();
        tape.setLength(0);
        Model other = new Model();
        int[] told = other.read(next);
        place = told[1];
        if (told[0] == 0) {
            text = next;
            model = other;
            living = null;
            fits.clear();
            painted = NONE;
            rows = null;
            plain = null;
            coded = null;
        }
        return told[0];
    }

    int place() {
        return place;
    }

    private Map<String, TreeSet<Integer>> living() {
        if (living == null) {
            living = model.living();
        }
        return living;
    }

    private Model.Block blockAt(int b) {
        return model != null && b >= 0 && b < model.blocks.size() ? model.blocks.get(b) : null;
    }

    private Model.Value valueAt(int v) {
        return model != null && v >= 0 && v < model.values.size() ? model.values.get(v) : null;
    }

    private static int pick(int what, int... answers) {
        return what >= 0 && what < answers.length ? answers[what] : NONE;
    }

    int block(int b, int what) {
        Model.Block block = blockAt(b);
        if (block == null) {
            return NONE;
        }
        return pick(what, model.blocks.indexOf(model.idom(block)), model.order().indexOf(block), block.ins.size(),
            block.phis.size(), block.preds.size(), Model.OPS.indexOf(block.end) - Model.OPS.indexOf("go"));
    }

    int value(int v, int what) {
        Model.Value value = valueAt(v);
        if (value == null) {
            return NONE;
        }
        int points = 0;
        for (TreeSet<Integer> set : living().values()) {
            points += set.contains(v) ? 1 : 0;
        }
        return pick(what, model.blocks.indexOf(value.home), model.pointOf(value), model.usesOf(value), value.colour,
            value.slot, points);
    }

    int ins(int b, int i, int what) {
        Model.Block block = blockAt(b);
        if (block == null || i < 1 || i > block.ins.size()) {
            return NONE;
        }
        Model.Ins ins = block.ins.get(i - 1);
        int[] want = {Model.OPS.indexOf(ins.op), model.values.indexOf(ins.result), NONE, 0, NONE, 0};
        for (int n = 0; n < ins.vals.size(); n++) {
            Model.Val val = ins.vals.get(n);
            want[2 + 2 * n] = val.value == null ? NONE : model.values.indexOf(val.value);
            want[3 + 2 * n] = val.value == null ? val.number : 0;
        }
        if (ins.op.equals("SAVE") || ins.op.equals("LOAD")) {
            want[3] = ins.slot;
        }
        return pick(what, want);
    }

    boolean live(int b, int i, int v) {
        return model != null && living().containsKey(b + "," + i) && living().get(b + "," + i).contains(v);
    }

    int pressure(int b, int i) {
        return model != null && living().containsKey(b + "," + i) ? living().get(b + "," + i).size() : NONE;
    }

    int clique(int i) {
        if (model == null) {
            return NONE;
        }
        List<Integer> all = new ArrayList<>(Model.firstClique(living()));
        return i >= 0 && i < all.size() ? all.get(i) : NONE;
    }

    boolean meet(int u, int v) {
        if (model == null || u == v) {
            return false;
        }
        for (TreeSet<Integer> set : living().values()) {
            if (set.contains(u) && set.contains(v)) {
                return true;
            }
        }
        return false;
    }

    int fit(int k) {
        if (model == null || k < 1 || k > 150) {
            return NONE;
        }
        int told = model.fit(k);
        living = null;
        if (told < 0) {
            restore();
            return told;
        }
        fits.add(k);
        painted = NONE;
        rows = null;
        for (Model.Value v : model.values) {
            v.colour = NONE;
        }
        return told;
    }

    /** The model is spoilt by a fit that fails; its rows are as they were. */
    private void restore() {
        model = new Model();
        model.read(text);
        for (int k : fits) {
            model.fit(k);
        }
        if (painted != NONE) {
            model.colour(painted);
        }
    }

    int colour(int how) {
        if (model == null || how != 0 && how != 1) {
            return NONE;
        }
        painted = how;
        rows = null;
        return model.colour(how);
    }

    int lower() {
        if (painted == NONE) {
            return NONE;
        }
        rows = model.code();
        return rows.size();
    }

    int code(int r, int what) {
        return rows != null && r >= 0 && r < rows.size() ? pick(what, rows.get(r).cells) : NONE;
    }

    int input(int v) {
        if (input.size() == 50) {
            return NONE;
        }
        input.add(v);
        return input.size();
    }

    int clear() {
        int had = input.size();
        input.clear();
        return had;
    }

    int run(boolean code, int fuel) {
        if (model == null || code && rows == null || fuel < 1 || fuel > 5000) {
            return NONE;
        }
        List<Integer> given = new ArrayList<>(input);
        if (code) {
            coded = model.runCode(rows, given, fuel);
            return coded.stop;
        }
        plain = model.runFunction(given, fuel);
        return plain.stop;
    }

    int told(boolean code, int what) {
        Model.Run run = code ? coded : plain;
        return run == null ? NONE : pick(what, run.stop, run.steps, run.returned, run.output.size(), run.taken);
    }

    int output(boolean code, int i) {
        Model.Run run = code ? coded : plain;
        return run != null && i >= 0 && i < run.output.size() && i < 100 ? run.output.get(i) : 0;
    }

    int memory(boolean code, int a) {
        Model.Run run = code ? coded : plain;
        return run != null && a >= 0 && a < 64 ? run.memory[a] : 0;
    }

    int count(int what) {
        if (what == 12) {
            return tape.length();
        }
        if (what >= 7 && what <= 10) {
            return countRows(what);
        }
        if (model == null) {
            return what >= 0 && what <= 12 ? 0 : NONE;
        }
        int phis = 0;
        for (Model.Block b : model.blocks) {
            phis += b.phis.size();
        }
        return what == 11 ? pairs() : pick(what, model.blocks.size(), model.values.size(), model.insCount(), phis,
            Model.maxLive(living()), living().size(), model.slots);
    }

    private int countRows(int what) {
        int n = 0;
        for (int r = 0; rows != null && r < rows.size(); r++) {
            n += what == 7 || rows.get(r).cells[0] == what + 14 ? 1 : 0;
        }
        return n;
    }

    private int pairs() {
        int n = 0;
        for (int u = 0; u < model.values.size(); u++) {
            for (int v = 0; v < u; v++) {
                n += meet(u, v) ? 1 : 0;
            }
        }
        return n;
    }
}
