/** Objects in the states between which the document tells apart. */
final class States {
    static final int COUNT = 9;

    /** Two that change places, a counter, an out and a put: MAXLIVE 3, and no fit below that. */
    static final String FLIP = "fun(n) s: go h h: a = phi s 1, l b b = phi s 2, l a i = phi s n, l j if i l e "
        + "l: j = sub i 1 put 3 a out b go h e: ret a";
    /** Three at once: with 2 registers two of them get SLOTS. */
    static final String THREE = "fun() s: a = in b = in c = in d = add a b e = add d c ret e";

    private static final String[] NAMES = {"a new object", "a tape", "a function", "a function behind a FAULT", "COLOURS",
        "CODE", "RUNS", "SLOTS", "all full"};

    private States() {
    }

    static String name(int state) {
        return NAMES[state];
    }

    static boolean hasFunction(int state) {
        return state >= 2;
    }

    static boolean hasColours(int state) {
        return state >= 4;
    }

    static boolean hasCode(int state) {
        return state >= 5;
    }

    static boolean hasRuns(int state) {
        return state >= 6;
    }

    static PaletteHouse at(int state) {
        PaletteHouse x = new PaletteHouse();
        enter(x, state);
        return x;
    }

    static void enter(PaletteHouse x, int state) {
        if (state == 1) {
            Check.feed(x, THREE + " ?");
        }
        if (hasFunction(state)) {
            x.input(3);
            x.input(-8);
            Check.feed(x, state == 7 ? THREE : FLIP);
            x.read();
        }
        if (state == 3) {
            Check.feed(x, "fun() s: ret z");
            x.read();
        }
        if (state == 7) {
            x.fit(2);
        }
        if (hasColours(state)) {
            x.colour(state % 2);
        }
        if (hasCode(state)) {
            x.lower();
        }
        if (hasRuns(state)) {
            x.run(false, 12);
            x.run(true, 200);
        }
        if (state == 8) {
            fill(x);
        }
    }

    private static void fill(PaletteHouse x) {
        Check.feed(x, THREE);
        x.back(THREE.length() % 20);
        for (int n = x.count(12); n < 4000; n += 20) {
            x.feed(0x20202020, 0x20202020, 0x20202020, 0x20202020, 0x20202020);
        }
        for (int n = 2; n < 50; n++) {
            x.input(n * 1000);
        }
    }
}
