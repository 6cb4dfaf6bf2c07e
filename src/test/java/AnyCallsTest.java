import java.nio.charset.StandardCharsets;
import java.util.Arrays;
import java.util.Random;

/** Runs of at most 512 calls with any arguments in any state: each answer is the one that the shadow gives. */
public final class AnyCallsTest {
    private static final int CALLS_MOST = 512;
    private static final int[] EDGES = {0, 1, 2, 3, 4, 5, 6, 7, 8, 12, 13, 19, 20, 29, 30, 31, 49, 50, 51, 63, 64, 99, 100, 101,
        149, 150, 151, 499, 500, 501, 1000, 1001, 1200, 3980, 3981, 4000, 4001, 4999, 5000, 5001, -1, -2, -3, -64,
        Integer.MAX_VALUE, Integer.MAX_VALUE - 1, Integer.MIN_VALUE, Integer.MIN_VALUE + 1};

    private final Check check;
    private final Random random;
    private final long seed;
    private final PaletteHouse house = new PaletteHouse();
    private final Shadow shadow = new Shadow();
    private int calls;

    private AnyCallsTest(Check check, long seed) {
        this.check = check;
        this.seed = seed;
        this.random = new Random(seed * 31 + 5);
    }

    /** An argument is how many seeds there are. */
    public static void main(String[] args) {
        int seeds = args.length > 0 ? Integer.parseInt(args[0]) : 400;
        Check check = new Check();
        for (int seed = 0; seed < seeds; seed++) {
            new AnyCallsTest(check, seed).play();
        }
        check.end("AnyCallsTest");
    }

    private void play() {
        while (calls < CALLS_MOST) {
            if (random.nextInt(40) == 0) {
                text();
            } else {
                call();
            }
        }
    }

    private void due(String name, int got, int want) {
        calls++;
        if (calls <= CALLS_MOST) {
            check.due("seed " + seed + ", call " + calls + ": " + name, got, want);
        }
    }

    /** Mostly small, often on an edge that the document names, sometimes anything. */
    private int some() {
        int kind = random.nextInt(12);
        if (kind == 0) {
            return random.nextInt();
        }
        return kind < 4 ? EDGES[random.nextInt(EDGES.length)] : random.nextInt(9);
    }

    private void text() {
        if (random.nextInt(3) > 0) {
            int all = house.count(12);
            due("back(" + all + ")", house.back(all), shadow.back(all));
        }
        Maker maker = new Maker(random.nextInt(1_000_000));
        String text = maker.text(1 + random.nextInt(8), 6, 3);
        if (random.nextInt(4) == 0) {
            text = maker.broken(text);
        }
        byte[] bytes = text.getBytes(StandardCharsets.ISO_8859_1);
        byte[] padded = Arrays.copyOf(bytes, (bytes.length + 19) / 20 * 20);
        Arrays.fill(padded, bytes.length, padded.length, (byte) 32);
        for (int i = 0; i < padded.length; i += 20) {
            int[] f = new int[5];
            for (int n = 0; n < 20; n++) {
                f[n / 4] = f[n / 4] << 8 | padded[i + n] & 255;
            }
            feed(f[0], f[1], f[2], f[3], f[4]);
        }
        due("read()", house.read(), shadow.read());
        due("place()", house.place(), shadow.place());
    }

    private void feed(int a, int b, int c, int d, int e) {
        due("feed(..)", house.feed(a, b, c, d, e), shadow.feed(a, b, c, d, e));
    }

    private void call() {
        int a = some();
        int b = some();
        boolean code = random.nextBoolean();
        switch (random.nextInt(12)) {
            case 0:
                due("fit(" + a + ")", house.fit(a), shadow.fit(a));
                break;
            case 1:
                due("colour(" + (a & 3) + ")", house.colour(a & 3), shadow.colour(a & 3));
                break;
            case 2:
                due("lower()", house.lower(), shadow.lower());
                break;
            case 3:
                due("input(" + a + ")", house.input(a), shadow.input(a));
                break;
            case 4:
                due("run(" + code + "," + a + ")", house.run(code, a), shadow.run(code, a));
                break;
            case 5:
                rare(a, b);
                break;
            default:
                ask(a, b, code);
                break;
        }
    }

    /** Those that take away what others need. */
    private void rare(int a, int b) {
        switch (random.nextInt(8)) {
            case 0:
                feed(a, b, some(), some(), some());
                break;
            case 1:
                due("read()", house.read(), shadow.read());
                break;
            case 2:
                due("clear()", house.clear(), shadow.clear());
                break;
            default:
                due("back(" + a + ")", house.back(a), shadow.back(a));
                break;
        }
    }

    private void ask(int a, int b, boolean code) {
        int c = some();
        switch (random.nextInt(13)) {
            case 0:
                due("place()", house.place(), shadow.place());
                break;
            case 1:
                due("block(" + a + "," + b + ")", house.block(a, b), shadow.block(a, b));
                break;
            case 2:
                due("value(" + a + "," + b + ")", house.value(a, b), shadow.value(a, b));
                break;
            case 3:
                due("ins(" + a + "," + b + "," + c + ")", house.ins(a, b, c), shadow.ins(a, b, c));
                break;
            case 4:
                due("live(" + a + "," + b + "," + c + ")", house.live(a, b, c) ? 1 : 0, shadow.live(a, b, c) ? 1 : 0);
                break;
            case 5:
                due("pressure(" + a + "," + b + ")", house.pressure(a, b), shadow.pressure(a, b));
                break;
            case 6:
                due("clique(" + a + ")", house.clique(a), shadow.clique(a));
                break;
            case 7:
                due("meet(" + a + "," + b + ")", house.meet(a, b) ? 1 : 0, shadow.meet(a, b) ? 1 : 0);
                break;
            case 8:
                due("code(" + a + "," + b + ")", house.code(a, b), shadow.code(a, b));
                break;
            case 9:
                due("told(" + code + "," + a + ")", house.told(code, a), shadow.told(code, a));
                break;
            case 10:
                due("output(" + code + "," + a + ")", house.output(code, a), shadow.output(code, a));
                break;
            case 11:
                due("memory(" + code + "," + a + ")", house.memory(code, a), shadow.memory(code, a));
                break;
            default:
                due("count(" + a + ")", house.count(a), shadow.count(a));
                break;
        }
    }
}
