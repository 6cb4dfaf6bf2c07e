import java.util.ArrayList;
import java.util.List;

/** All that an object answers, at the end of which its INPUT and its tape are used up. */
final class Look {
    /** An object is good for so many calls; what made its state had some of them. */
    private static final int CALLS_MOST = 480;

    private final PaletteHouse x;
    private final List<String> seen = new ArrayList<>();

    private Look(PaletteHouse house) {
        x = house;
    }

    /** What is asked goes by what the object answers, so it must be a small function. */
    static List<String> at(PaletteHouse house) {
        Look look = new Look(house);
        look.add("place()", house.place());
        return look.all();
    }

    /** The fault's place is the one thing that a refused read changes. */
    static List<String> butPlace(PaletteHouse house) {
        return new Look(house).all();
    }

    private List<String> all() {
        for (int what = 0; what <= 12; what++) {
            add("count(" + what + ")", x.count(what));
        }
        function();
        code();
        runs(false);
        runs(true);
        spend();
        if (seen.size() > CALLS_MOST) {
            throw new IllegalStateException("a look of " + seen.size() + " calls");
        }
        return seen;
    }

    private void add(String call, int answer) {
        seen.add(call + " answered " + answer);
    }

    private void function() {
        int blocks = x.count(0);
        int values = x.count(1);
        for (int b = 0; b < blocks; b++) {
            for (int what = 0; what <= 5; what++) {
                add("block(" + b + "," + what + ")", x.block(b, what));
            }
            int size = x.block(b, 2);
            for (int i = 0; i <= size; i++) {
                add("pressure(" + b + "," + i + ")", x.pressure(b, i));
                for (int v = 0; v < values; v++) {
                    add("live(" + b + "," + i + "," + v + ")", x.live(b, i, v) ? 1 : 0);
                }
                for (int what = 0; i > 0 && what <= 5; what++) {
                    add("ins(" + b + "," + i + "," + what + ")", x.ins(b, i, what));
                }
            }
        }
        for (int v = 0; v < values; v++) {
            for (int what = 0; what <= 5; what++) {
                add("value(" + v + "," + what + ")", x.value(v, what));
            }
        }
        int most = x.count(4);
        for (int i = 0; i <= most; i++) {
            add("clique(" + i + ")", x.clique(i));
        }
        add("meet(0,1)", x.meet(0, 1) ? 1 : 0);
    }

    private void code() {
        int rows = x.count(7);
        for (int r = 0; r <= rows; r++) {
            for (int what = 0; what <= 7; what++) {
                add("code(" + r + "," + what + ")", x.code(r, what));
            }
        }
    }

    private void runs(boolean code) {
        for (int what = 0; what <= 4; what++) {
            add("told(" + code + "," + what + ")", x.told(code, what));
        }
        for (int i = 0; i <= 3; i++) {
            add("output(" + code + "," + i + ")", x.output(code, i));
            add("memory(" + code + "," + i + ")", x.memory(code, i));
        }
    }

    /** The INPUT shows in a run, and the tape in what is read from it. */
    private void spend() {
        add("run(true,30)", x.run(true, 30));
        add("run(false,30)", x.run(false, 30));
        runs(false);
        add("lower()", x.lower());
        add("clear()", x.clear());
        add("read()", x.read());
        add("then place()", x.place());
        for (int what = 0; what <= 4; what++) {
            add("then count(" + what + ")", x.count(what));
        }
    }
}
