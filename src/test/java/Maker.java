import java.util.ArrayList;
import java.util.List;
import java.util.Random;

/** Makes texts: functions in strict SSA from a seed, and such with something broken. */
final class Maker {
    private static final String[] ONE = {"copy", "neg", "not", "get", "copy"};
    private static final String[] TWO = {"add", "sub", "mul", "div", "rem", "and", "or", "xor", "shl", "shr", "lt", "eq"};

    private final Random random;
    private int blocks;
    private int[][] targets;
    private boolean[][] doms;
    private int[] phis;
    private int[] sizes;
    // Of each value: its block and the point behind its definition.
    private final List<int[]> values = new ArrayList<>();
    private int params;
    private int numbersOutOf10;
    private int phisMost;

    Maker(long seed) {
        random = new Random(seed * 7919 + 17);
    }

    private int below(int n) {
        return n <= 0 ? 0 : random.nextInt(n);
    }

    /** The text has at most so many blocks, so many INS in one, and so many PHIS in one. */
    String text(int blocksMost, int insMost, int phiMost) {
        phisMost = phiMost;
        numbersOutOf10 = below(5);
        for (int tries = 0; tries < 200; tries++) {
            blocks = 1 + below(blocksMost);
            wire();
            if (allReached(-1)) {
                break;
            }
            blocks = 0;
        }
        if (blocks == 0) {
            blocks = 1;
            targets = new int[][] {{}};
        }
        dominate();
        return write(insMost);
    }

    private void wire() {
        targets = new int[blocks][];
        for (int b = 0; b < blocks; b++) {
            int kind = below(10);
            if (blocks == 1 || kind == 0 && b > 0) {
                targets[b] = new int[0];
            } else if (kind < 4 || blocks == 2) {
                targets[b] = new int[] {some(b)};
            } else {
                int first = some(b);
                int second = some(b);
                targets[b] = first == second ? new int[] {first} : new int[] {first, second};
            }
        }
    }

    /** Mostly near by, so that long functions hang together. */
    private int some(int b) {
        int near = b + 1 + below(3);
        return below(3) > 0 && near < blocks ? near : 1 + below(blocks - 1);
    }

    private boolean allReached(int without) {
        boolean[] seen = reach(without);
        for (int b = 0; b < blocks; b++) {
            if (!seen[b]) {
                return false;
            }
        }
        return true;
    }

    private boolean[] reach(int without) {
        boolean[] seen = new boolean[blocks];
        List<Integer> todo = new ArrayList<>();
        todo.add(0);
        while (!todo.isEmpty()) {
            int b = todo.remove(todo.size() - 1);
            if (b != without && !seen[b]) {
                seen[b] = true;
                for (int t : targets[b]) {
                    todo.add(t);
                }
            }
        }
        return seen;
    }

    private void dominate() {
        doms = new boolean[blocks][blocks];
        for (int d = 0; d < blocks; d++) {
            boolean[] seen = reach(d);
            for (int b = 0; b < blocks; b++) {
                doms[d][b] = !seen[b];
            }
        }
    }

    private String write(int insMost) {
        params = below(5);
        values.clear();
        for (int n = 0; n < params; n++) {
            values.add(new int[] {0, 0});
        }
        phis = new int[blocks];
        sizes = new int[blocks];
        String[][] ops = new String[blocks][];
        for (int b = 0; b < blocks; b++) {
            phis[b] = preds(b).isEmpty() || below(3) == 0 ? 0 : below(phisMost + 1);
            sizes[b] = below(insMost + 1);
            ops[b] = new String[sizes[b]];
            for (int n = 0; n < phis[b]; n++) {
                values.add(new int[] {b, 0});
            }
            for (int i = 0; i < sizes[b]; i++) {
                ops[b][i] = op();
                if (!ops[b][i].equals("out") && !ops[b][i].equals("put")) {
                    values.add(new int[] {b, i + 1});
                }
            }
        }
        return lay(ops);
    }

    private String op() {
        int kind = below(20);
        if (kind == 0) {
            return "in";
        }
        if (kind <= 2) {
            return "out";
        }
        if (kind == 3) {
            return "put";
        }
        return kind <= 8 ? ONE[below(ONE.length)] : TWO[below(TWO.length)];
    }

    private List<Integer> preds(int b) {
        List<Integer> preds = new ArrayList<>();
        for (int p = 0; p < blocks; p++) {
            for (int t : targets[p]) {
                if (t == b) {
                    preds.add(p);
                }
            }
        }
        return preds;
    }

    private String lay(String[][] ops) {
        StringBuilder s = new StringBuilder("fun(");
        int v = 0;
        for (int n = 0; n < params; n++) {
            s.append(n > 0 ? "," : "").append("v").append(v++);
        }
        s.append(")");
        for (int b = 0; b < blocks; b++) {
            s.append("b").append(b).append(":");
            for (int n = 0; n < phis[b]; n++) {
                s.append("v").append(v++).append("=phi ");
                List<Integer> preds = preds(b);
                java.util.Collections.shuffle(preds, random);
                for (int p = 0; p < preds.size(); p++) {
                    s.append(p > 0 ? "," : "").append("b").append(preds.get(p));
                    s.append(" ").append(val(preds.get(p), sizes[preds.get(p)] + 1));
                }
                s.append("\n");
            }
            for (int i = 0; i < sizes[b]; i++) {
                String op = ops[b][i];
                boolean effect = op.equals("out") || op.equals("put");
                s.append(effect ? "" : "v" + v++ + "=").append(op);
                boolean two = op.equals("put") || java.util.Arrays.asList(TWO).contains(op);
                int n = op.equals("in") ? 0 : two ? 2 : 1;
                for (int k = 0; k < n; k++) {
                    s.append(" ").append(val(b, i + 1));
                }
                s.append("\n");
            }
            end(s, b);
        }
        return s.toString();
    }

    private void end(StringBuilder s, int b) {
        int last = sizes[b] + 1;
        if (targets[b].length == 0) {
            s.append("ret ").append(val(b, last));
        } else if (targets[b].length == 1) {
            s.append("go b").append(targets[b][0]);
        } else {
            s.append("if ").append(val(b, last)).append(" b").append(targets[b][0]).append(" b").append(targets[b][1]);
        }
        s.append("\n");
    }

    private String val(int b, int i) {
        List<Integer> there = new ArrayList<>();
        for (int v = 0; v < values.size(); v++) {
            int home = values.get(v)[0];
            if (home == b ? values.get(v)[1] < i : doms[home][b]) {
                there.add(v);
            }
        }
        if (there.isEmpty() || below(10) < numbersOutOf10) {
            int[] some = {0, 1, -1, 2, 7, 31, 32, 63, 64, Integer.MIN_VALUE, Integer.MAX_VALUE, below(100), -below(100)};
            return String.valueOf(some[below(some.length)]);
        }
        // The newest ones are wanted often, so that there are chains, and all are wanted sometimes.
        int from = below(2) == 0 ? Math.max(0, there.size() - 4) : 0;
        return "v" + there.get(from + below(there.size() - from));
    }

    /** One thing in the text is broken, or perhaps only changed. */
    String broken(String text) {
        String[] bits = {"", " ", ",", "=", ":", "(", ")", "-", "-5", "7", "v1", "b1", "b0", "b2", "v0", "phi", "ret",
            "go b1", "if 1 b1 b2", "v1=in", "out 1", "x", "99999999999", "2147483648", "abcdefghi", "\u00e9", "fun", "A",
            "v3=phi b0 1", "-2147483648", "b1:", "b99:ret 0 ", "in", "\0"};
        int from = below(text.length() + 1);
        int to = Math.min(text.length(), from + below(4) * below(3));
        switch (below(4)) {
            case 0:
                return text.substring(0, from) + bits[below(bits.length)] + text.substring(to);
            case 1:
                return nameChanged(text);
            case 2:
                return text.substring(0, from) + text.substring(to);
            default:
                return below(6) == 0 ? text.substring(0, from)
                    : text.substring(0, from) + bits[below(bits.length)] + text.substring(from);
        }
    }

    private String nameChanged(String text) {
        java.util.regex.Matcher m = java.util.regex.Pattern.compile("[vb][0-9]+").matcher(text);
        List<int[]> spots = new ArrayList<>();
        while (m.find()) {
            spots.add(new int[] {m.start(), m.end()});
        }
        if (spots.isEmpty()) {
            return text;
        }
        int[] spot = spots.get(below(spots.size()));
        int[] other = spots.get(below(spots.size()));
        String name = below(5) == 0 ? "zz" : text.substring(other[0], other[1]);
        return text.substring(0, spot[0]) + name + text.substring(spot[1]);
    }
}
