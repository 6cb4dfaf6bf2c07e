import java.lang.management.ManagementFactory;
import java.util.Random;

/** Any calls with any arguments in any state: none throws, the same calls answer the same, and little is made. */
public final class StormTest {
    private static final int[] EDGES = {0, 1, 2, 3, 4, 5, 6, 7, 8, 10, 19, 20, 29, 30, 31, 49, 50, 63, 64, 99, 100, 149, 150,
        151, 499, 500, 1000, 1200, 4000, 5000, 5001, -1, -2, -3, Integer.MAX_VALUE, Integer.MIN_VALUE};

    private StormTest() {
    }

    public static void main(String[] args) {
        Check check = new Check();
        for (int seed = 0; seed < 600; seed++) {
            long first = storm(seed);
            check.due("seed " + seed + " again", storm(seed) == first, true);
        }
        check.due("bytes made by 512 dear calls are few", dear() < 1_500_000, true);
        check.end("StormTest");
    }

    private static long storm(int seed) {
        Random random = new Random(seed);
        PaletteHouse x = new PaletteHouse();
        long sum = 0;
        for (int n = 0; n < 512; n++) {
            if (n % 60 == 1 && random.nextInt(3) > 0) {
                Maker maker = new Maker(seed + n);
                String text = maker.text(1 + random.nextInt(10), 5, 3);
                Check.feed(x, random.nextInt(4) == 0 ? maker.broken(text) : text);
                sum = sum * 31 + x.read();
            }
            sum = sum * 31 + call(x, random);
        }
        return sum;
    }

    private static int some(Random random) {
        return random.nextInt(10) == 0 ? random.nextInt() : random.nextInt(3) == 0
            ? EDGES[random.nextInt(EDGES.length)] : random.nextInt(12);
    }

    private static int call(PaletteHouse x, Random random) {
        int a = some(random);
        int b = some(random);
        int c = some(random);
        boolean code = random.nextBoolean();
        switch (random.nextInt(24)) {
            case 0:
                return x.feed(a, b, c, random.nextInt(), random.nextInt());
            case 1:
                return x.back(a);
            case 2:
                return random.nextInt(6) == 0 ? x.read() : 0;
            case 3:
                return x.place();
            case 4:
                return x.block(a, b);
            case 5:
                return x.value(a, b);
            case 6:
                return x.ins(a, b, c);
            case 7:
                return x.live(a, b, c) ? 1 : 0;
            case 8:
                return x.pressure(a, b);
            case 9:
                return x.clique(a);
            case 10:
                return x.meet(a, b) ? 1 : 0;
            case 11:
                return x.fit(a);
            case 12:
            case 13:
                return x.colour(a & 3);
            case 14:
            case 15:
                return x.lower();
            case 16:
                return x.code(a, b);
            case 17:
                return x.input(a);
            case 18:
                return random.nextInt(6) == 0 ? x.clear() : 0;
            case 19:
                return x.run(code, a);
            case 20:
                return x.told(code, a);
            case 21:
                return x.output(code, a);
            case 22:
                return x.memory(code, a);
            default:
                return x.count(a);
        }
    }

    /** The room is for all calls of a run together. */
    private static long dear() {
        StringBuilder s = new StringBuilder("fun()s:");
        for (int v = 0; v < 100; v++) {
            s.append("v").append(v).append("=in ");
        }
        for (int n = 0; n < 200; n++) {
            s.append("put v").append(n * 7 % 100).append(" v").append(n * 11 % 100).append(" ");
        }
        String text = s.append("ret v0").toString();
        com.sun.management.ThreadMXBean bean = (com.sun.management.ThreadMXBean) ManagementFactory.getThreadMXBean();
        long id = Thread.currentThread().getId();
        long before = bean.getThreadAllocatedBytes(id);
        PaletteHouse x = new PaletteHouse();
        Check.feed(x, text);
        x.read();
        for (int n = 0; n < 50; n++) {
            x.fit(2);
            x.colour(n % 2);
            x.lower();
            x.count(11);
            x.run(true, 5000);
            x.run(false, 5000);
            x.fit(60);
        }
        return bean.getThreadAllocatedBytes(id) - before;
    }
}
