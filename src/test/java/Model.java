import java.util.ArrayList;
import java.util.Arrays;
import java.util.HashMap;
import java.util.HashSet;
import java.util.LinkedHashSet;
import java.util.List;
import java.util.Map;
import java.util.Set;
import java.util.TreeMap;
import java.util.TreeSet;

/**
 * The document's words taken one by one, slowly, with nothing shared with the program: what the program answers
 * is compared with this.
 */
final class Model {
    static final List<String> OPS = Arrays.asList("copy", "neg", "not", "add", "sub", "mul", "div", "rem", "and", "or",
        "xor", "shl", "shr", "lt", "eq", "in", "get", "out", "put", "go", "if", "ret", "MOVE", "SWAP", "SET", "SAVE",
        "LOAD");
    static final Set<String> WORDS = new HashSet<>(Arrays.asList(("fun phi in get copy neg not add sub mul div rem "
        + "and or xor shl shr lt eq out put go if ret").split(" ")));

    static final class Token {
        String kind;
        String word = "";
        int place;
        int number;
    }

    static final class Val {
        Token token;
        Value value;
        int number;
    }

    static final class Value {
        Token token;
        Block home;
        Ins maker;
        boolean loaded;
        int slot = -1;
        int colour = -1;
    }

    static final class Arm {
        Token token;
        Block block;
        Val val;
    }

    static final class Phi {
        Value result;
        Token token;
        List<Arm> arms = new ArrayList<>();
    }

    static final class Ins {
        String op;
        Value result;
        List<Val> vals = new ArrayList<>();
        int slot;
    }

    static final class Block {
        Token token;
        List<Phi> phis = new ArrayList<>();
        List<Ins> ins = new ArrayList<>();
        String end;
        Val endVal;
        List<Token> targetTokens = new ArrayList<>();
        List<Block> targets = new ArrayList<>();
        Set<Block> preds = new LinkedHashSet<>();
    }

    static final class Stop extends RuntimeException {
        private static final long serialVersionUID = 1L;

        Stop() {
            super("stop");
        }
    }

    List<Token> tokens = new ArrayList<>();
    List<int[]> faults = new ArrayList<>();
    int at;
    int items;
    List<Value> params = new ArrayList<>();
    List<Value> values = new ArrayList<>();
    List<Block> blocks = new ArrayList<>();
    List<Val> vals = new ArrayList<>();
    int slots;

    // ---- I. the text

    private static void lex(String text, List<Token> into) {
        int i = 0;
        while (true) {
            while (i < text.length() && "\t\n\r ".indexOf(text.charAt(i)) >= 0) {
                i++;
            }
            Token t = new Token();
            t.place = i;
            into.add(t);
            String rest = text.substring(i);
            java.util.regex.Matcher word = java.util.regex.Pattern.compile("^[a-z][a-z0-9]*").matcher(rest);
            java.util.regex.Matcher number = java.util.regex.Pattern.compile("^-?[0-9]+").matcher(rest);
            if (rest.isEmpty()) {
                t.kind = "end";
                return;
            } else if (word.find()) {
                t.word = word.group();
                t.kind = WORDS.contains(t.word) ? t.word : t.word.length() > 8 ? "wrong" : "NAME";
                i += t.word.length();
            } else if (number.find()) {
                String digits = number.group().replace("-", "");
                t.kind = "wrong";
                if (digits.length() <= 10) {
                    long n = Long.parseLong(number.group());
                    if (n == (int) n) {
                        t.kind = "NUMBER";
                        t.number = (int) n;
                    }
                }
                i += number.group().length();
            } else if ("(),:=".indexOf(rest.charAt(0)) >= 0) {
                t.kind = rest.substring(0, 1);
                i++;
            } else {
                t.kind = "wrong";
            }
            if (t.kind.equals("wrong")) {
                return;
            }
        }
    }

    private String kind() {
        return tokens.get(at).kind;
    }

    private Token take(String... kinds) {
        if (!Arrays.asList(kinds).contains(kind())) {
            fault(1, tokens.get(at));
            throw new Stop();
        }
        return tokens.get(at++);
    }

    private void fault(int number, Token token) {
        faults.add(new int[] {token.place, number});
    }

    private Value newValue(Token token, Block home) {
        Value v = new Value();
        v.token = token;
        v.home = home;
        values.add(v);
        if (values.size() == 151) {
            fault(2, token);
        }
        return v;
    }

    private Val val() {
        Val val = new Val();
        val.token = take("NAME", "NUMBER");
        val.number = val.token.number;
        vals.add(val);
        return val;
    }

    private void item() {
        items++;
        if (items == 401) {
            fault(2, tokens.get(at));
        }
    }

    private void grammar() {
        take("fun");
        take("(");
        if (!kind().equals(")")) {
            do {
                Token t = take("NAME");
                params.add(newValue(t, null));
                if (params.size() == 9) {
                    fault(2, t);
                }
            } while (take(",", ")").kind.equals(","));
        } else {
            take(")");
        }
        do {
            oneBlock();
        } while (!kind().equals("end"));
    }

    private void oneBlock() {
        Block b = new Block();
        b.token = take("NAME");
        blocks.add(b);
        if (blocks.size() == 31) {
            fault(2, b.token);
        }
        take(":");
        while (true) {
            Token first = take("NAME", "out", "put", "go", "if", "ret");
            at--;
            item();
            at++;
            if (first.kind.equals("NAME")) {
                definition(b, first);
            } else if (first.kind.equals("out") || first.kind.equals("put")) {
                Ins ins = new Ins();
                ins.op = first.kind;
                b.ins.add(ins);
                ins.vals.add(val());
                if (ins.op.equals("put")) {
                    ins.vals.add(val());
                }
            } else {
                b.end = first.kind;
                if (!b.end.equals("go")) {
                    b.endVal = val();
                }
                int names = b.end.equals("go") ? 1 : b.end.equals("if") ? 2 : 0;
                for (int n = 0; n < names; n++) {
                    b.targetTokens.add(take("NAME"));
                }
                return;
            }
        }
    }

    private void definition(Block b, Token name) {
        Value v = newValue(name, b);
        take("=");
        List<String> ops = new ArrayList<>(OPS.subList(0, 17));
        if (b.ins.isEmpty()) {
            ops.add("phi");
        }
        Token op = take(ops.toArray(new String[0]));
        if (op.kind.equals("phi")) {
            Phi phi = new Phi();
            phi.result = v;
            phi.token = op;
            b.phis.add(phi);
            boolean more = true;
            while (more) {
                Arm arm = new Arm();
                arm.token = take("NAME");
                arm.val = val();
                phi.arms.add(arm);
                more = kind().equals(",");
                if (more) {
                    take(",");
                }
            }
            return;
        }
        Ins ins = new Ins();
        ins.op = op.kind;
        ins.result = v;
        v.maker = ins;
        b.ins.add(ins);
        int k = OPS.indexOf(op.kind);
        int n = k == 15 ? 0 : k <= 2 || k == 16 ? 1 : 2;
        for (int i = 0; i < n; i++) {
            ins.vals.add(val());
        }
    }

    /** {0, NONE}, or the fault's number and its place. */
    int[] read(String text) {
        lex(text, tokens);
        try {
            grammar();
        } catch (Stop stop) {
            at = -1;
        }
        if (tokens.size() > 1200 && !Arrays.asList("end", "wrong").contains(tokens.get(1200).kind)) {
            fault(2, tokens.get(1200));
        }
        if (faults.isEmpty()) {
            for (Value v : params) {
                v.home = blocks.get(0);
            }
            names();
            forms();
        }
        if (faults.isEmpty()) {
            strict();
        }
        int[] best = {Integer.MAX_VALUE, 0};
        for (int[] f : faults) {
            if (f[0] < best[0] || f[0] == best[0] && f[1] < best[1]) {
                best = f;
            }
        }
        return faults.isEmpty() ? new int[] {0, -1} : new int[] {best[1], best[0]};
    }

    private void names() {
        Map<String, Value> byName = new HashMap<>();
        for (Value v : values) {
            if (byName.putIfAbsent(v.token.word, v) != null) {
                fault(3, v.token);
            }
        }
        Map<String, Block> blockByName = new HashMap<>();
        for (Block b : blocks) {
            if (blockByName.putIfAbsent(b.token.word, b) != null) {
                fault(3, b.token);
            }
        }
        for (Val val : vals) {
            if (val.token.kind.equals("NAME")) {
                val.value = byName.get(val.token.word);
                if (val.value == null) {
                    fault(4, val.token);
                }
            }
        }
        for (Block b : blocks) {
            for (Token t : b.targetTokens) {
                Block to = blockByName.get(t.word);
                b.targets.add(to);
                if (to == null) {
                    fault(4, t);
                } else {
                    to.preds.add(b);
                }
            }
            for (Phi phi : b.phis) {
                for (Arm arm : phi.arms) {
                    arm.block = blockByName.get(arm.token.word);
                    if (arm.block == null) {
                        fault(4, arm.token);
                    }
                }
            }
        }
    }

    private Set<Block> reach(Block without) {
        Set<Block> seen = new LinkedHashSet<>();
        List<Block> todo = new ArrayList<>();
        todo.add(blocks.get(0));
        while (!todo.isEmpty()) {
            Block b = todo.remove(0);
            if (b != null && b != without && seen.add(b)) {
                todo.addAll(b.targets);
            }
        }
        return seen;
    }

    private void forms() {
        Set<Block> reached = reach(null);
        for (Block b : blocks) {
            for (int n = 0; n < b.targets.size(); n++) {
                Block to = b.targets.get(n);
                if (to == blocks.get(0) || n == 1 && to != null && to == b.targets.get(0)) {
                    fault(5, b.targetTokens.get(n));
                }
            }
            if (!reached.contains(b)) {
                fault(5, b.token);
            }
            for (Phi phi : b.phis) {
                Set<Block> had = new HashSet<>();
                boolean sound = true;
                for (Arm arm : phi.arms) {
                    if (arm.block == null) {
                        sound = false;
                    } else if (!b.preds.contains(arm.block) || !had.add(arm.block)) {
                        fault(5, arm.token);
                        sound = false;
                    }
                }
                if (sound && !had.equals(b.preds)) {
                    fault(5, phi.token);
                }
            }
        }
    }

    // ---- II. ways and lives

    private final Map<Block, Set<Block>> reachedWithout = new HashMap<>();
    private final Map<Block, Block> idoms = new HashMap<>();

    boolean dominates(Block d, Block b) {
        return d == b || !reachedWithout.computeIfAbsent(d, this::reach).contains(b);
    }

    private void strictAt(Val val, Block b, int i) {
        if (val != null && val.value != null) {
            Value v = val.value;
            boolean good = v.home == b ? pointOf(v) < i : dominates(v.home, b);
            if (!good) {
                fault(6, val.token);
            }
        }
    }

    private void strict() {
        for (Block b : blocks) {
            for (int i = 0; i < b.ins.size(); i++) {
                for (Val val : b.ins.get(i).vals) {
                    strictAt(val, b, i + 1);
                }
            }
            strictAt(b.endVal, b, b.ins.size() + 1);
            for (Phi phi : b.phis) {
                for (Arm arm : phi.arms) {
                    strictAt(arm.val, arm.block, arm.block.ins.size() + 1);
                }
            }
        }
    }

    int pointOf(Value v) {
        return v.maker == null ? 0 : v.home.ins.indexOf(v.maker) + 1;
    }

    Block idom(Block b) {
        if (!idoms.containsKey(b)) {
            idoms.put(b, findIdom(b));
        }
        return idoms.get(b);
    }

    private Block findIdom(Block b) {
        Block best = null;
        for (Block d : blocks) {
            if (d != b && dominates(d, b)) {
                boolean all = true;
                for (Block e : blocks) {
                    all &= e == b || !dominates(e, b) || dominates(e, d);
                }
                if (all) {
                    best = d;
                }
            }
        }
        return best;
    }

    List<Block> order() {
        List<Block> order = new ArrayList<>();
        below(blocks.get(0), order);
        return order;
    }

    private void below(Block b, List<Block> order) {
        order.add(b);
        for (Block child : blocks) {
            if (child != b && idom(child) == b) {
                below(child, order);
            }
        }
    }

    private boolean uses(Ins ins, Value v) {
        return ins.vals.stream().anyMatch(val -> val.value == v);
    }

    boolean usedAtEnd(Block b, Value v) {
        boolean used = b.endVal != null && b.endVal.value == v;
        for (Block other : blocks) {
            for (Phi phi : other.phis) {
                for (Arm arm : phi.arms) {
                    used |= arm.block == b && arm.val.value == v;
                }
            }
        }
        return used;
    }

    /** Of a function of some size, backwards from the uses; else by the document's very words. */
    Set<String> lives(Value v) {
        return values.size() * (insCount() + blocks.size()) > 1500 ? livesBackwards(v) : livesByWays(v);
    }

    Set<String> livesBackwards(Value v) {
        Set<String> living = new HashSet<>();
        living.add(blocks.indexOf(v.home) + "," + pointOf(v));
        List<Block> atEnd = new ArrayList<>();
        for (Block b : blocks) {
            for (int i = b.ins.size() - 1; i >= 0; i--) {
                if (uses(b.ins.get(i), v)) {
                    backwards(b, i, v, living, atEnd);
                }
            }
            if (b.endVal != null && b.endVal.value == v) {
                atEnd.add(b);
            }
            for (Phi phi : b.phis) {
                for (Arm arm : phi.arms) {
                    if (arm.val.value == v) {
                        atEnd.add(arm.block);
                    }
                }
            }
        }
        Set<Block> seen = new HashSet<>();
        while (!atEnd.isEmpty()) {
            Block b = atEnd.remove(0);
            if (seen.add(b)) {
                backwards(b, b.ins.size(), v, living, atEnd);
            }
        }
        return living;
    }

    private void backwards(Block b, int from, Value v, Set<String> living, List<Block> atEnd) {
        int number = blocks.indexOf(b);
        for (int i = from; i >= 0; i--) {
            living.add(number + "," + i);
            if (i > 0 && b.ins.get(i - 1).result == v) {
                return;
            }
        }
        if (v.home != b || v.maker != null) {
            atEnd.addAll(b.preds);
        }
    }

    /** From each point all ways are walked. */
    Set<String> livesByWays(Value v) {
        Set<String> living = new HashSet<>();
        for (Block b : blocks) {
            for (int i = 0; i <= b.ins.size(); i++) {
                if (v.home == b && pointOf(v) == i || wayToUse(b, i, v)) {
                    living.add(blocks.indexOf(b) + "," + i);
                }
            }
        }
        return living;
    }

    private boolean wayToUse(Block from, int start, Value v) {
        Set<Block> seen = new HashSet<>();
        List<Block> todo = new ArrayList<>();
        int way = straight(from, start, v);
        if (way != 0) {
            return way > 0;
        }
        todo.addAll(from.targets);
        while (!todo.isEmpty()) {
            Block b = todo.remove(0);
            boolean definedHere = v.home == b && v.maker == null;
            if (!definedHere && seen.add(b)) {
                way = straight(b, 0, v);
                if (way > 0) {
                    return true;
                }
                if (way == 0) {
                    todo.addAll(b.targets);
                }
            }
        }
        return false;
    }

    /** 1 if a use comes on the way to the block's end, -1 if the definition does, 0 if neither. */
    private int straight(Block b, int i, Value v) {
        for (int n = i; n < b.ins.size(); n++) {
            if (uses(b.ins.get(n), v)) {
                return 1;
            }
            if (b.ins.get(n).result == v) {
                return -1;
            }
        }
        return usedAtEnd(b, v) ? 1 : 0;
    }

    /** By points in their order: who lives there. */
    Map<String, TreeSet<Integer>> living() {
        Map<String, TreeSet<Integer>> all = new java.util.LinkedHashMap<>();
        for (int b = 0; b < blocks.size(); b++) {
            for (int i = 0; i <= blocks.get(b).ins.size(); i++) {
                all.put(b + "," + i, new TreeSet<>());
            }
        }
        for (int v = 0; v < values.size(); v++) {
            for (String point : lives(values.get(v))) {
                all.get(point).add(v);
            }
        }
        return all;
    }

    static int maxLive(Map<String, TreeSet<Integer>> living) {
        int most = 0;
        for (TreeSet<Integer> set : living.values()) {
            most = Math.max(most, set.size());
        }
        return most;
    }

    static TreeSet<Integer> firstClique(Map<String, TreeSet<Integer>> living) {
        for (TreeSet<Integer> set : living.values()) {
            if (set.size() == maxLive(living)) {
                return set;
            }
        }
        return new TreeSet<>();
    }

    List<Val> allVals() {
        List<Val> all = new ArrayList<>();
        for (Block b : blocks) {
            for (Phi phi : b.phis) {
                for (Arm arm : phi.arms) {
                    all.add(arm.val);
                }
            }
            for (Ins ins : b.ins) {
                all.addAll(ins.vals);
            }
            if (b.endVal != null) {
                all.add(b.endVal);
            }
        }
        return all;
    }

    int usesOf(Value v) {
        int n = 0;
        for (Val val : allVals()) {
            if (val.value == v) {
                n++;
            }
        }
        return n;
    }

    int insCount() {
        int n = 0;
        for (Block b : blocks) {
            n += b.ins.size();
        }
        return n;
    }

    // ---- III. colours

    int colour(int how) {
        for (Value v : values) {
            v.colour = -1;
        }
        Map<String, TreeSet<Integer>> living = living();
        int most = maxLive(living);
        for (Block b : order()) {
            int number = blocks.indexOf(b);
            if (number == 0) {
                for (Value v : params) {
                    give(v, living.get("0,0"), most, how);
                }
            }
            for (Phi phi : b.phis) {
                give(phi.result, living.get(number + ",0"), most, how);
            }
            for (int i = 0; i < b.ins.size(); i++) {
                if (b.ins.get(i).result != null) {
                    give(b.ins.get(i).result, living.get(number + "," + (i + 1)), most, how);
                }
            }
        }
        Set<Integer> different = new HashSet<>();
        for (Value v : values) {
            different.add(v.colour);
        }
        return different.size();
    }

    private void give(Value v, Set<Integer> here, int most, int how) {
        TreeMap<Integer, Integer> free = new TreeMap<>();
        for (int c = 0; c < most; c++) {
            free.put(c, 0);
        }
        for (int u : here) {
            free.remove(values.get(u).colour);
        }
        if (how == 1) {
            for (Value wisher : wishers(v)) {
                if (wisher != null && free.containsKey(wisher.colour)) {
                    free.put(wisher.colour, free.get(wisher.colour) + 1);
                }
            }
        }
        int best = free.firstKey();
        for (int c : free.keySet()) {
            if (free.get(c) > free.get(best)) {
                best = c;
            }
        }
        v.colour = best;
    }

    private List<Value> wishers(Value v) {
        List<Value> all = new ArrayList<>();
        for (Block b : blocks) {
            for (Phi phi : b.phis) {
                for (Arm arm : phi.arms) {
                    if (phi.result == v) {
                        all.add(arm.val.value);
                    }
                    if (arm.val.value == v) {
                        all.add(phi.result);
                    }
                }
            }
            for (Ins ins : b.ins) {
                if (ins.op.equals("copy") && ins.result == v) {
                    all.add(ins.vals.get(0).value);
                }
                if (ins.op.equals("copy") && ins.vals.get(0).value == v) {
                    all.add(ins.result);
                }
            }
        }
        return all;
    }

    // ---- IV. slots

    /** Works on this model itself: after -2 it is of no use any more. */
    int fit(int k) {
        int given = 0;
        while (true) {
            TreeSet<Integer> crowd = null;
            for (TreeSet<Integer> set : living().values()) {
                if (set.size() > k && crowd == null) {
                    crowd = set;
                }
            }
            if (crowd == null) {
                return given;
            }
            Value chosen = null;
            for (int n : crowd) {
                Value v = values.get(n);
                if (v.slot < 0 && !v.loaded && (chosen == null || usesOf(v) <= usesOf(chosen))) {
                    chosen = v;
                }
            }
            if (chosen == null) {
                return -2;
            }
            spill(chosen);
            given++;
            if (values.size() > 500 || insCount() > 1000) {
                return -2;
            }
        }
    }

    private void spill(Value v) {
        v.slot = slots++;
        Ins save = new Ins();
        save.op = "SAVE";
        save.slot = v.slot;
        Val saved = new Val();
        saved.value = v;
        save.vals.add(saved);
        v.home.ins.add(pointOf(v), save);
        for (Block b : blocks) {
            for (Ins ins : new ArrayList<>(b.ins)) {
                if (uses(ins, v) && !ins.op.equals("SAVE")) {
                    Value fresh = load(b, b.ins.indexOf(ins), v.slot);
                    for (Val val : ins.vals) {
                        if (val.value == v) {
                            val.value = fresh;
                        }
                    }
                }
            }
            if (usedAtEnd(b, v)) {
                Value fresh = load(b, b.ins.size(), v.slot);
                if (b.endVal != null && b.endVal.value == v) {
                    b.endVal.value = fresh;
                }
                for (Block other : blocks) {
                    for (Phi phi : other.phis) {
                        for (Arm arm : phi.arms) {
                            if (arm.block == b && arm.val.value == v) {
                                arm.val.value = fresh;
                            }
                        }
                    }
                }
            }
        }
    }

    private Value load(Block b, int where, int slot) {
        Ins load = new Ins();
        load.op = "LOAD";
        load.slot = slot;
        load.result = new Value();
        load.result.home = b;
        load.result.maker = load;
        load.result.loaded = true;
        values.add(load.result);
        b.ins.add(where, load);
        return load.result;
    }

    // ---- V. code

    static final class Row {
        int[] cells = {-1, -1, -1, 0, -1, 0, -1, -1};
        boolean step;
    }

    List<Row> code() {
        List<Row> rows = new ArrayList<>();
        Map<Block, Integer> starts = new HashMap<>();
        Map<Block, Row> ends = new HashMap<>();
        for (Block b : blocks) {
            starts.put(b, rows.size());
            if (b.preds.size() == 1 && b.preds.iterator().next().end.equals("if")) {
                moves(b.preds.iterator().next(), b, rows);
            }
            for (Ins ins : b.ins) {
                rows.add(row(ins));
            }
            if (b.end.equals("go")) {
                moves(b, b.targets.get(0), rows);
            }
            Row end = new Row();
            end.step = true;
            end.cells[0] = OPS.indexOf(b.end);
            if (b.endVal != null) {
                operand(end, 2, b.endVal);
            }
            ends.put(b, end);
            rows.add(end);
        }
        for (Block b : blocks) {
            for (int n = 0; n < b.targets.size(); n++) {
                Block to = b.targets.get(n);
                boolean edge = b.end.equals("if") && !to.phis.isEmpty() && to.preds.size() > 1;
                ends.get(b).cells[6 + n] = edge ? rows.size() : starts.get(to);
                if (edge) {
                    moves(b, to, rows);
                    Row go = new Row();
                    go.cells[0] = 19;
                    go.cells[6] = starts.get(to);
                    rows.add(go);
                }
            }
        }
        return rows;
    }

    private static void operand(Row row, int column, Val val) {
        if (val.value != null) {
            row.cells[column] = val.value.colour;
        } else {
            row.cells[column + 1] = val.number;
        }
    }

    private static Row row(Ins ins) {
        Row row = new Row();
        row.cells[0] = OPS.indexOf(ins.op);
        row.step = row.cells[0] < 25;
        row.cells[1] = ins.result == null ? -1 : ins.result.colour;
        for (int n = 0; n < ins.vals.size(); n++) {
            operand(row, 2 + 2 * n, ins.vals.get(n));
        }
        if (row.cells[0] >= 25) {
            row.cells[3] = ins.slot;
        }
        return row;
    }

    private static void moves(Block from, Block to, List<Row> rows) {
        TreeMap<Integer, Integer> left = new TreeMap<>();
        TreeMap<Integer, Integer> sets = new TreeMap<>();
        for (Phi phi : to.phis) {
            for (Arm arm : phi.arms) {
                if (arm.block == from && arm.val.value == null) {
                    sets.put(phi.result.colour, arm.val.number);
                } else if (arm.block == from && arm.val.value.colour != phi.result.colour) {
                    left.put(phi.result.colour, arm.val.value.colour);
                }
            }
        }
        while (!left.isEmpty()) {
            int free = -1;
            for (int d : left.keySet()) {
                if (free < 0 && !left.containsValue(d)) {
                    free = d;
                }
            }
            int d = free >= 0 ? free : left.firstKey();
            int s = left.remove(d);
            Row row = new Row();
            row.cells[0] = free >= 0 ? 22 : 23;
            row.cells[1] = d;
            row.cells[2] = s;
            rows.add(row);
            if (free < 0) {
                for (int other : new ArrayList<>(left.keySet())) {
                    if (left.get(other) == d) {
                        left.put(other, s);
                    }
                }
                left.entrySet().removeIf(e -> e.getKey().intValue() == e.getValue().intValue());
            }
        }
        for (int d : sets.keySet()) {
            Row row = new Row();
            row.cells[0] = 24;
            row.cells[1] = d;
            row.cells[3] = sets.get(d);
            rows.add(row);
        }
    }

    // ---- VI. runs

    static final class Run {
        int stop = -1;
        int steps;
        int returned;
        int taken;
        List<Integer> output = new ArrayList<>();
        int[] memory = new int[64];
        private final Map<Integer, Integer> slots = new HashMap<>();
        private final List<Integer> input;
        private final int fuel;

        Run(List<Integer> input, int fuel) {
            this.input = input;
            this.fuel = fuel;
        }

        int next() {
            return taken < input.size() ? input.get(taken++) : 0;
        }

        boolean step() {
            if (steps == fuel) {
                stop = 0;
                return false;
            }
            steps++;
            return true;
        }

        /** NONE of a result is null. */
        Integer act(String op, int x, int y, int slot) {
            switch (op) {
                case "SAVE":
                    slots.put(slot, x);
                    return null;
                case "LOAD":
                    return slots.getOrDefault(slot, 0);
                default:
                    break;
            }
            if (steps < fuel && (op.equals("div") || op.equals("rem")) && y == 0) {
                stop = 2;
                return null;
            }
            if (!step()) {
                return null;
            }
            switch (op) {
                case "in":
                    return next();
                case "get":
                    return memory[Math.floorMod(x, 64)];
                case "put":
                    memory[Math.floorMod(x, 64)] = y;
                    return null;
                case "out":
                    output.add(x);
                    return null;
                default:
                    return reckon(op, x, y);
            }
        }

        private static int reckon(String op, long x, long y) {
            int by = (int) Math.floorMod(y, 32L);
            switch (op) {
                case "copy":
                    return (int) x;
                case "neg":
                    return (int) -x;
                case "not":
                    return (int) (-x - 1);
                case "add":
                    return (int) (x + y);
                case "sub":
                    return (int) (x - y);
                case "mul":
                    return (int) (x * y);
                case "div":
                    return (int) (x / y);
                case "rem":
                    return (int) (x % y);
                case "and":
                    return (int) (x & y);
                case "or":
                    return (int) (x | y);
                case "xor":
                    return (int) (x ^ y);
                case "shl":
                    return (int) (x << by);
                case "shr":
                    return (int) ((x & 0xFFFFFFFFL) >> by);
                case "lt":
                    return x < y ? 1 : 0;
                case "eq":
                    return x == y ? 1 : 0;
                default:
                    throw new IllegalStateException(op);
            }
        }
    }

    Run runFunction(List<Integer> input, int fuel) {
        Run run = new Run(input, fuel);
        Map<Value, Integer> held = new HashMap<>();
        for (Value v : params) {
            held.put(v, run.next());
        }
        Block b = blocks.get(0);
        while (true) {
            for (Ins ins : b.ins) {
                int x = ins.vals.size() > 0 ? of(ins.vals.get(0), held) : 0;
                int y = ins.vals.size() > 1 ? of(ins.vals.get(1), held) : 0;
                Integer got = run.act(ins.op, x, y, ins.slot);
                if (run.stop >= 0) {
                    return run;
                }
                if (ins.result != null) {
                    held.put(ins.result, got);
                }
            }
            if (!run.step()) {
                return run;
            }
            int had = b.endVal == null ? 0 : of(b.endVal, held);
            if (b.end.equals("ret")) {
                run.stop = 1;
                run.returned = had;
                return run;
            }
            Block to = b.targets.get(b.end.equals("if") && had == 0 ? 1 : 0);
            Map<Value, Integer> before = new HashMap<>(held);
            for (Phi phi : to.phis) {
                for (Arm arm : phi.arms) {
                    if (arm.block == b) {
                        held.put(phi.result, of(arm.val, before));
                    }
                }
            }
            b = to;
        }
    }

    private static int of(Val val, Map<Value, Integer> held) {
        return val.value == null ? val.number : held.get(val.value);
    }

    Run runCode(List<Row> rows, List<Integer> input, int fuel) {
        Run run = new Run(input, fuel);
        int[] regs = new int[600];
        for (Value v : params) {
            regs[v.colour] = run.next();
        }
        int at = 0;
        while (true) {
            Row row = rows.get(at++);
            int[] c = row.cells;
            int x = c[2] >= 0 ? regs[c[2]] : c[3];
            int y = c[4] >= 0 ? regs[c[4]] : c[5];
            if (c[0] >= 19 && c[0] <= 21) {
                if (row.step && !run.step()) {
                    return run;
                }
                if (c[0] == 21) {
                    run.stop = 1;
                    run.returned = x;
                    return run;
                }
                at = c[0] == 19 || x != 0 ? c[6] : c[7];
            } else if (c[0] == 22 || c[0] == 24) {
                regs[c[1]] = x;
            } else if (c[0] == 23) {
                regs[c[2]] = regs[c[1]];
                regs[c[1]] = x;
            } else {
                Integer got = run.act(OPS.get(c[0]), x, y, c[3]);
                if (run.stop >= 0) {
                    return run;
                }
                if (c[1] >= 0) {
                    regs[c[1]] = got;
                }
            }
        }
    }
}
