import java.util.Random;

/** Functions as large as they may be: fits that have no room, long rows, and the time that they take. */
public final class HeavyTest {
    private HeavyTest() {
    }

    public static void main(String[] args) {
        Check check = new Check();
        int full = 0;
        for (int seed = 0; seed < 5 && check.wrong() == 0; seed++) {
            full += fits(check, seed);
        }
        check.due("some fits had no room", full > 2, true);
        manyPhis(check);
        manyBlocks(check);
        check.end("HeavyTest");
    }

    /** Values that live long and are used often, with registers from few to many. */
    private static int fits(Check check, int seed) {
        Random random = new Random(seed);
        int vars = 20 + random.nextInt(100);
        StringBuilder s = new StringBuilder("fun()s:");
        for (int v = 0; v < vars; v++) {
            s.append("v").append(v).append("=in ");
        }
        int left = (1190 - 3 * vars) / 3;
        for (int n = 0; n < left && n + vars < 398 && s.length() < 3950; n++) {
            s.append("put v").append(random.nextInt(vars)).append(" v").append(random.nextInt(vars)).append(" ");
        }
        Twin twin = new Twin(check);
        twin.tag = "heavy " + seed;
        twin.read(s.append("ret v0").toString());
        int full = 0;
        int[] registers = {2, vars * 3 / 4, vars / 2};
        for (int k : registers) {
            twin.colour(seed % 2);
            if (twin.fit(k) == -2) {
                full++;
            }
        }
        twin.compare();
        twin.colour(seed % 2);
        twin.lower();
        twin.run(false, 5000);
        twin.run(true, 5000);
        twin.compareRuns();
        twin.sameRuns();
        return full;
    }

    /** As many ARMS as the tokens allow, most of them moves that turn in circles. */
    private static void manyPhis(Check check) {
        int n = 100;
        StringBuilder s = new StringBuilder("fun()s:go h h:");
        for (int v = 0; v < n; v++) {
            s.append("v").append(v).append("=phi s ").append(v).append(",l v").append((v * 7 + 3) % n).append("\n");
        }
        s.append("i=phi s 9,l j if i l e l:j=sub i 1 go h e:");
        for (int v = 0; v < 80; v++) {
            s.append("out v").append(v).append(" ");
        }
        Twin twin = new Twin(check);
        twin.tag = "many phis";
        twin.read(s.append("ret v99").toString());
        check.due("it is read", twin.hasFunction(), true);
        for (int how = 0; how < 2; how++) {
            twin.colour(how);
            twin.lower();
            twin.compare();
            twin.run(false, 5000);
            twin.run(true, 5000);
            twin.compareRuns();
            twin.sameRuns();
        }
        twin.fit(101);
        twin.fit(100);
        twin.compare();
    }

    /** Thirty blocks, with ways into all later ones. */
    private static void manyBlocks(Check check) {
        for (int seed = 0; seed < 20; seed++) {
            Maker maker = new Maker(1000 + seed);
            String text = maker.text(30, 4, 2);
            Twin twin = new Twin(check);
            twin.tag = "many blocks " + seed;
            if (text.length() <= 4000) {
                twin.read(text);
                twin.colour(seed % 2);
                twin.lower();
                twin.run(false, 3000);
                twin.run(true, 3000);
                twin.compareRuns();
                twin.sameRuns();
                twin.compare();
                twin.fit(3 + seed % 5);
                twin.compare();
            }
        }
    }
}
