/** Texts from seeds with something broken in them: the fault and its place against the model. */
public final class BrokenTest {
    private BrokenTest() {
    }

    public static void main(String[] args) {
        int seeds = args.length > 0 ? Integer.parseInt(args[0]) : 20000;
        Check check = new Check();
        int[] told = new int[7];
        for (int seed = 0; seed < seeds && check.wrong() == 0; seed++) {
            Maker maker = new Maker(seed);
            String text = maker.text(1 + seed % 8, 1 + seed % 5, 3);
            for (int n = 0; n <= seed % 3; n++) {
                text = maker.broken(text);
            }
            if (text.length() < 3900) {
                told[one(check, text)]++;
            }
        }
        for (int fault = 0; fault < told.length; fault++) {
            // No short text has a fault of room; the others must all have been told.
            check.due("fault " + fault + " was told", told[fault] > 0, fault != 2);
        }
        check.end("BrokenTest");
    }

    private static int one(Check check, String text) {
        PaletteHouse house = new PaletteHouse();
        Check.feed(house, text);
        int[] want = new Model().read(text);
        int got = house.read();
        if (got != want[0] || house.place() != want[1]) {
            System.out.println(text);
        }
        check.due("read()", got, want[0]);
        check.due("place()", house.place(), want[1]);
        return want[0];
    }
}
