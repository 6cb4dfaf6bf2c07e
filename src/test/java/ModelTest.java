import java.util.Random;

/** Functions from seeds, through all calls, against the model. */
public final class ModelTest {
    private ModelTest() {
    }

    public static void main(String[] args) {
        int seeds = args.length > 0 ? Integer.parseInt(args[0]) : 400;
        Check check = new Check();
        for (int seed = 0; seed < seeds && check.wrong() == 0; seed++) {
            play(check, seed);
        }
        check.end("ModelTest");
    }

    private static void play(Check check, int seed) {
        Random random = new Random(seed);
        Twin twin = new Twin(check);
        twin.tag = "seed " + seed;
        twin.compare();
        twin.refused();
        for (int texts = 0; texts < 3; texts++) {
            Maker maker = new Maker(seed * 3L + texts);
            boolean big = seed % 40 == 39;
            String text = big ? maker.text(20, 6, 4) : maker.text(1 + random.nextInt(9), 1 + random.nextInt(6), 3);
            if (text.length() > 3900) {
                continue;
            }
            twin.read(text);
            twin.compare();
            for (int n = 0; n < 12; n++) {
                call(twin, random);
            }
            twin.read(maker.broken(text));
            twin.refused();
            twin.compare();
            twin.compareRuns();
            round(twin, random);
            twin.refused();
            twin.compare();
            twin.compareRuns();
        }
    }

    private static void call(Twin twin, Random random) {
        switch (random.nextInt(9)) {
            case 0:
            case 1:
                twin.input(random.nextInt(9) - 4);
                break;
            case 2:
                if (random.nextInt(4) == 0) {
                    twin.clear();
                }
                break;
            case 3:
            case 4:
                twin.colour(random.nextInt(2));
                break;
            case 5:
                twin.lower();
                break;
            case 6:
                twin.fit(1 + random.nextInt(8));
                twin.compare();
                break;
            default:
                twin.run(random.nextBoolean(), 1 + random.nextInt(random.nextInt(4) == 0 ? 5000 : 30));
                break;
        }
        twin.compareRuns();
    }

    /** Colours, code and both runs of the same length, as one would use it. */
    private static void round(Twin twin, Random random) {
        twin.colour(random.nextInt(2));
        twin.compare();
        twin.lower();
        twin.compare();
        int fuel = 1 + random.nextInt(200);
        twin.run(false, fuel);
        twin.run(true, fuel);
        twin.compareRuns();
        twin.sameRuns();
    }
}
