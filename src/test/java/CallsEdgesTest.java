import java.util.LinkedHashMap;
import java.util.Map;
import java.util.function.ToIntFunction;

/** Promises 1 to 23: each sentence that names a boundary, on both sides of it, and what a refused call leaves. */
public final class CallsEdgesTest {
    private static final int MIN = Integer.MIN_VALUE;
    private static final int MAX = Integer.MAX_VALUE;
    private static final int NONE = -1;
    private static final int BLANKS = 0x20202020;

    private static final Check CHECK = new Check();

    private CallsEdgesTest() {
    }

    public static void main(String[] args) {
        feedUpTo4000();
        backUpToAll();
        readEmptiesTheTape();
        readForgets();
        readBehindAnother();
        placeNoneWithout();
        blockNoneForOthers();
        valueNoneForOthers();
        insNoneForOthers();
        liveElsewhere();
        pressureNoneElsewhere();
        cliqueNoneBehind();
        meetTwoUnlikeOnes();
        fitOneTo150();
        fitNotFitted();
        fitDropsColoursAndCode();
        colourZeroOrOne();
        lowerNeedsColours();
        codeNoneForOthers();
        inputUpTo50();
        clearTellsHowMany();
        runNeedsOne();
        runOneTo5000();
        toldNoneForOthers();
        toldTheFirst100AreKept();
        toldSinceRead();
        outputZeroWithout();
        memoryZeroWithout();
        countZeroWithout();
        countNoneForAnother();
        refusedInEveryState();
        refusedInSomeStates();
        CHECK.end("CallsEdgesTest");
    }

    private static void due(String call, int got, int want) {
        CHECK.due(call, got, want);
    }

    private static void due(String call, boolean got, boolean want) {
        CHECK.due(call, got, want);
    }

    private static PaletteHouse good(String text) {
        return CHECK.good(text);
    }

    private static int blanks(PaletteHouse x) {
        return x.feed(BLANKS, BLANKS, BLANKS, BLANKS, BLANKS);
    }

    /** A tape of so many bytes that ends with a text's last byte. */
    private static PaletteHouse tapeOf(int length, String text) {
        PaletteHouse x = new PaletteHouse();
        Check.feed(x, Check.many(" ", length - text.length()) + text);
        return x;
    }

    /** 2: "NONE, and nothing comes, if it would have more than 4,000". */
    private static void feedUpTo4000() {
        PaletteHouse x = new PaletteHouse();
        for (int n = 1; n <= 200; n++) {
            due("2: feed " + n, blanks(x), 20 * n);
        }
        due("2: feed 201", blanks(x), NONE);
        due("2: bytes", x.count(12), 4000);
        due("2: again", blanks(x), NONE);
        for (int length = 3961; length <= 4000; length++) {
            x = tapeOf(length, "fun()s:ret 0");
            due("2: feed at " + length, x.feed(0x203f3f3f, 0, -1, MIN, MAX), length <= 3980 ? length + 20 : NONE);
            due("2: bytes behind it", x.count(12), length <= 3980 ? length + 20 : length);
            due("2: read behind it", x.read(), length <= 3980 ? 1 : 0);
            due("2: place behind it", x.place(), length <= 3980 ? length + 1 : NONE);
        }
        x = new PaletteHouse();
        Check.feed(x, Check.many(" ", 3981));
        due("2: refused at 3,981", blanks(x), NONE);
        due("2: one back", x.back(1), 3980);
        due("2: then it comes", blanks(x), 4000);
    }

    /** 3: "NONE, and nothing goes, if it has not so many, or n is below 0". */
    private static void backUpToAll() {
        PaletteHouse x = new PaletteHouse();
        due("3: 0 of none", x.back(0), 0);
        due("3: 1 of none", x.back(1), NONE);
        due("3: -1 of none", x.back(-1), NONE);
        for (int n : new int[] {13, 14, 4000, MAX, -1, -2, MIN}) {
            x = tapeOf(12, "fun()s:ret 0");
            due("3: back(" + n + ") of 12", x.back(n), NONE);
            due("3: bytes behind it", x.count(12), 12);
            due("3: read behind it", x.read(), 0);
        }
        for (int n = 0; n <= 12; n++) {
            x = tapeOf(12, "fun()s:ret 0");
            due("3: back(" + n + ") of 12", x.back(n), 12 - n);
            due("3: bytes behind it", x.count(12), 12 - n);
            due("3: read behind it", x.read(), n == 0 ? 0 : 1);
        }
        x = tapeOf(4000, "fun()s:ret 0");
        due("3: 4,001 of 4,000", x.back(4001), NONE);
        due("3: 4,000 of 4,000", x.back(4000), 0);
        due("3: then it has none", x.back(1), NONE);
    }

    /** 4: "The tape, which is empty then, is read". */
    private static void readEmptiesTheTape() {
        PaletteHouse x = tapeOf(4000, "fun()s:ret 0");
        due("4: read", x.read(), 0);
        due("4: empty", x.count(12), 0);
        due("4: nothing goes back", x.back(1), NONE);
        due("4: room for more", blanks(x), 20);
        Check.feed(x, "fun()s:ret z");
        due("4: a FAULT", x.read(), 4);
        due("4: empty then, too", x.count(12), 0);
        due("4: nothing is left to read", x.read(), 1);
        due("4: at its end", x.place(), 0);
        due("4: the function is still there", x.count(0), 1);
        Check.feed(x, "fun()s:");
        Check.feed(x, "go t t:ret 0");
        due("4: what came in two parts is one text", x.read(), 0);
        due("4: and is the function", x.count(0), 2);
    }

    /** 4: "and it is the function (no COLOURS, CODE, RUNS, SLOTS)". */
    private static void readForgets() {
        for (int state = 0; state < States.COUNT; state++) {
            PaletteHouse x = States.at(state);
            int had = States.hasFunction(state) ? state == 8 ? 50 : 2 : 0;
            x.back(x.count(12));
            Check.feed(x, States.THREE);
            String name = "4: behind " + States.name(state);
            due(name, x.read(), 0);
            due(name + ", place", x.place(), NONE);
            due(name + ", VALUES", x.count(1), 5);
            due(name + ", INS", x.count(2), 5);
            for (int v = 0; v < 5; v++) {
                due(name + ", COLOUR", x.value(v, 3), NONE);
                due(name + ", SLOT", x.value(v, 4), NONE);
            }
            due(name + ", SLOTS", x.count(6), 0);
            due(name + ", ROWS", x.count(7), 0);
            due(name + ", row 0", x.code(0, 0), NONE);
            due(name + ", lower", x.lower(), NONE);
            due(name + ", run", x.run(true, 9), NONE);
            for (int what = 0; what < 5; what++) {
                due(name + ", RUN", x.told(false, what), NONE);
                due(name + ", RUN", x.told(true, what), NONE);
            }
            due(name + ", OUTPUT", x.output(true, 0), 0);
            due(name + ", MEMORY", x.memory(true, 3), 0);
            due(name + ", INPUT stays", x.clear(), had);
        }
    }

    private static void pass(PaletteHouse x, String text, int k) {
        Check.feed(x, text);
        x.read();
        x.fit(k);
        x.colour(1);
        x.lower();
        x.run(true, 60);
        x.run(false, 40);
    }

    /** 4: "and it is the function": nothing of an earlier one is left in it, whatever was done with that. */
    private static void readBehindAnother() {
        String[] texts = {States.FLIP, States.THREE, "fun()s:ret 0", "fun(a,b,c,d)s:put a b put c d ret 0",
            "fun(a)s:if a t u t:b=add a 1 go v u:c=copy a go v v:p=phi t b,u c q=phi t a,u 5 put p q ret p",
            "fun()s:go u t:b=in out a ret b u:a=in if a t v v:go t",
            "fun(n)s:go h h:i=phi s n,h j j=sub i 1 if j h e e:out n ret i", "fun(a)s:go t t:if a t u u:ret 4"};
        for (String first : texts) {
            for (String second : texts) {
                for (int k = 2; k <= 3; k++) {
                    PaletteHouse x = new PaletteHouse();
                    x.input(3);
                    x.input(4);
                    pass(x, first, k);
                    pass(x, second, k);
                    PaletteHouse twin = new PaletteHouse();
                    twin.input(3);
                    twin.input(4);
                    pass(twin, second, k);
                    CHECK.same("4: " + second + " behind " + first, Look.at(x), Look.at(twin));
                }
            }
        }
    }

    /** 5: "NONE without". */
    private static void placeNoneWithout() {
        PaletteHouse x = new PaletteHouse();
        due("5: no read()", x.place(), NONE);
        Check.feed(x, "fun()s:ret ?");
        due("5: not yet", x.place(), NONE);
        x.read();
        due("5: a FAULT", x.place(), 11);
        due("5: still", x.place(), 11);
        Check.feed(x, "fun()s:ret 0");
        due("5: the latest read()", x.place(), 11);
        x.read();
        due("5: no FAULT", x.place(), NONE);
        x.read();
        due("5: of the empty tape", x.place(), 0);
    }

    /** 6: "NONE of 0"; "NONE for others". */
    private static void blockNoneForOthers() {
        PaletteHouse x = good(States.FLIP);
        int[][] want = {{NONE, 0, 0, 0, 0, 0}, {0, 1, 0, 3, 2, 1}, {1, 2, 3, 0, 1, 0}, {1, 3, 0, 0, 1, 2}};
        for (int b = -2; b <= 5; b++) {
            for (int what = -2; what <= 7; what++) {
                boolean there = b >= 0 && b <= 3 && what >= 0 && what <= 5;
                due("6: block(" + b + "," + what + ")", x.block(b, what), there ? want[b][what] : NONE);
            }
        }
        for (int far : new int[] {30, 31, 32, 64, MAX, MIN}) {
            due("6: block(" + far + ",0)", x.block(far, 0), NONE);
            due("6: block(1," + far + ")", x.block(1, far), NONE);
        }
    }

    /** 7: "NONE without"; "NONE for others". */
    private static void valueNoneForOthers() {
        PaletteHouse x = good(States.FLIP);
        int[][] want = {{0, 0, 1, NONE, NONE, 1}, {1, 0, 3, NONE, NONE, 6}, {1, 0, 2, NONE, NONE, 5},
            {1, 0, 2, NONE, NONE, 2}, {2, 1, 1, NONE, NONE, 3}};
        for (int v = -2; v <= 6; v++) {
            for (int what = -2; what <= 7; what++) {
                boolean there = v >= 0 && v <= 4 && what >= 0 && what <= 5;
                due("7: value(" + v + "," + what + ")", x.value(v, what), there ? want[v][what] : NONE);
            }
        }
        for (int far : new int[] {150, 151, 500, 501, MAX, MIN}) {
            due("7: value(" + far + ",0)", x.value(far, 0), NONE);
            due("7: value(0," + far + ")", x.value(0, far), NONE);
        }
        x.colour(0);
        due("7: COLOUR", x.value(0, 3), 0);
        due("7: COLOUR behind", x.value(5, 3), NONE);
        x.fit(150);
        due("7: COLOUR without", x.value(0, 3), NONE);
        x = good(States.THREE);
        due("7: SLOT without", x.value(2, 4), NONE);
        x.fit(2);
        due("7: SLOT", x.value(2, 4), 0);
        due("7: LOAD's result", x.value(6, 0), 0);
        due("7: behind it", x.value(7, 0), NONE);
    }

    /** 8: "Of INS i (from 1 on)"; "NONE, 0 where it has none such"; "NONE for others". */
    private static void insNoneForOthers() {
        PaletteHouse x = good(States.FLIP);
        int[][] want = {{4, 4, 3, 0, NONE, 1}, {18, NONE, NONE, 3, 1, 0}, {17, NONE, 2, 0, NONE, 0}};
        for (int b = -1; b <= 4; b++) {
            for (int i = -1; i <= 5; i++) {
                for (int what = -1; what <= 7; what++) {
                    boolean there = b == 2 && i >= 1 && i <= 3 && what >= 0 && what <= 5;
                    due("8: ins(" + b + "," + i + "," + what + ")", x.ins(b, i, what),
                        there ? want[i - 1][what] : NONE);
                }
            }
        }
        for (int far : new int[] {1000, 1001, MAX, MIN}) {
            due("8: ins(" + far + ",1,0)", x.ins(far, 1, 0), NONE);
            due("8: ins(2," + far + ",0)", x.ins(2, far, 0), NONE);
            due("8: ins(2,1," + far + ")", x.ins(2, 1, far), NONE);
        }
        x = good("fun()s:a=in ret a");
        int[] in = {15, 0, NONE, 0, NONE, 0};
        for (int what = 0; what <= 5; what++) {
            due("8: in, " + what, x.ins(0, 1, what), in[what]);
        }
        // A number that is like NONE.
        x = good("fun()s:a=add -1 -1 ret a");
        due("8: -1", x.ins(0, 1, 3), -1);
        due("8: no VALUE", x.ins(0, 1, 2), NONE);
        due("8: -1", x.ins(0, 1, 5), -1);
    }

    /** 9: whether VALUE v is LIVE at POINT (b, i): of none such it is not. */
    private static void liveElsewhere() {
        PaletteHouse x = good("fun(a)s:b=in go t t:put a b ret 0");
        for (int b = -1; b <= 2; b++) {
            for (int i = -1; i <= 3; i++) {
                for (int v = -1; v <= 2; v++) {
                    boolean ofA = v == 0 && (b == 0 && (i == 0 || i == 1) || b == 1 && i == 0);
                    boolean ofB = v == 1 && (b == 0 && i == 1 || b == 1 && i == 0);
                    due("9: live(" + b + "," + i + "," + v + ")", x.live(b, i, v), ofA || ofB);
                }
            }
        }
        for (int far : new int[] {30, 64, 500, MAX, MIN}) {
            due("9: b " + far, x.live(far, 0, 0), false);
            due("9: i " + far, x.live(0, far, 0), false);
            due("9: v " + far, x.live(0, 0, far), false);
        }
        due("9: no function", new PaletteHouse().live(0, 0, 0), false);
    }

    /** 10: "NONE if there is none such". */
    private static void pressureNoneElsewhere() {
        PaletteHouse x = good("fun(a)s:b=in go t t:put a b ret 0");
        int[][] want = {{1, 2}, {2, 0}};
        for (int b = -1; b <= 2; b++) {
            for (int i = -1; i <= 3; i++) {
                boolean there = b >= 0 && b <= 1 && i >= 0 && i <= 1;
                due("10: pressure(" + b + "," + i + ")", x.pressure(b, i), there ? want[b][i] : NONE);
            }
        }
        for (int far : new int[] {30, 1000, MAX, MIN}) {
            due("10: b " + far, x.pressure(far, 0), NONE);
            due("10: i " + far, x.pressure(0, far), NONE);
        }
        due("10: no function", new PaletteHouse().pressure(0, 0), NONE);
        due("10: 0 is not NONE", good("fun()s:ret 0").pressure(0, 0), 0);
    }

    /** 11: "NONE if it has not so many". */
    private static void cliqueNoneBehind() {
        PaletteHouse x = good(States.THREE);
        int[] want = {0, 1, 2};
        for (int i = -3; i <= 6; i++) {
            due("11: clique(" + i + ")", x.clique(i), i >= 0 && i < 3 ? want[i] : NONE);
        }
        due("11: far", x.clique(MAX), NONE);
        due("11: far", x.clique(MIN), NONE);
        due("11: none", good("fun()s:ret 0").clique(0), NONE);
        due("11: no function", new PaletteHouse().clique(0), NONE);
    }

    /** 12: "Whether u and v, two unlike ones, MEET". */
    private static void meetTwoUnlikeOnes() {
        PaletteHouse x = good(States.THREE);
        boolean[][] want = new boolean[5][5];
        int[][] pairs = {{0, 1}, {0, 2}, {1, 2}, {2, 3}};
        for (int[] pair : pairs) {
            want[pair[0]][pair[1]] = true;
            want[pair[1]][pair[0]] = true;
        }
        for (int u = -1; u <= 5; u++) {
            for (int v = -1; v <= 5; v++) {
                boolean there = u >= 0 && u < 5 && v >= 0 && v < 5;
                due("12: meet(" + u + "," + v + ")", x.meet(u, v), there && want[u][v]);
            }
        }
        for (int far : new int[] {64, 500, MAX, MIN}) {
            due("12: meet(0," + far + ")", x.meet(0, far), false);
            due("12: meet(" + far + ",0)", x.meet(far, 0), false);
            due("12: meet(" + far + "," + far + ")", x.meet(far, far), false);
        }
        due("12: no function", new PaletteHouse().meet(0, 1), false);
    }

    /** 13: "(k 1 .. 150)"; "NONE, and nothing happens, without a function, or for another k". */
    private static void fitOneTo150() {
        for (int k : new int[] {MIN, -2, -1, 0, 1, 2, 149, 150, 151, 152, MAX}) {
            boolean taken = k >= 1 && k <= 150;
            PaletteHouse x = good("fun()s:a=in ret a");
            x.colour(0);
            x.lower();
            due("13: fit(" + k + ")", x.fit(k), taken ? 0 : NONE);
            due("13: ROWS behind it", x.count(7), taken ? 0 : 2);
            due("13: without a function", new PaletteHouse().fit(k), NONE);
        }
    }

    /** 13: "-2 if there was none to choose, or too many". */
    private static void fitNotFitted() {
        PaletteHouse x = good(States.FLIP);
        due("13: three PHIS in 3", x.fit(3), 0);
        due("13: three PHIS in 2", x.fit(2), -2);
        due("13: three PHIS in 1", x.fit(1), -2);
        due("13: it goes on", x.fit(3), 0);
        due("13: COLOURS", x.colour(0), 3);
        due("13: ROWS", x.lower(), 11);
        due("13: -2 again", x.fit(2), -2);
        due("13: the COLOURS stay", x.value(2, 3), 1);
        due("13: the CODE stays", x.count(7), 11);
        due("13: it runs", x.run(true, 50), 1);
        due("13: it can be made again", x.lower(), 11);
    }

    /** 13: "How many VALUES got a SLOT"; "If it told 0 or more there are no COLOURS, CODE." */
    private static void fitDropsColoursAndCode() {
        for (int k = 2; k <= 3; k++) {
            PaletteHouse x = good(States.THREE);
            x.colour(1);
            x.lower();
            x.run(true, 50);
            due("13: fit(" + k + ")", x.fit(k), k == 2 ? 2 : 0);
            due("13: no ROWS", x.count(7), 0);
            due("13: no row", x.code(0, 0), NONE);
            due("13: no COLOUR", x.value(0, 3), NONE);
            due("13: lower", x.lower(), NONE);
            due("13: run", x.run(true, 5), NONE);
            due("13: the RUN is still told of", x.told(true, 0), 1);
            due("13: the function runs", x.run(false, 6), 1);
        }
    }

    /** 14: "(how 0, 1)"; "NONE, and nothing happens, without a function, or for another how". */
    private static void colourZeroOrOne() {
        for (int how : new int[] {MIN, -2, -1, 0, 1, 2, 3, MAX}) {
            boolean taken = how == 0 || how == 1;
            PaletteHouse x = good(States.THREE);
            due("14: colour(" + how + ")", x.colour(how), taken ? 3 : NONE);
            due("14: COLOUR behind it", x.value(0, 3), taken ? 0 : NONE);
            due("14: lower behind it", x.lower(), taken ? 6 : NONE);
            x.colour(0);
            x.lower();
            due("14: colour(" + how + ") with CODE", x.colour(how), taken ? 3 : NONE);
            due("14: there is no CODE then", x.count(7), taken ? 0 : 6);
            due("14: COLOURS all the same", x.value(2, 3), 2);
            due("14: without a function", new PaletteHouse().colour(how), NONE);
        }
        due("14: no VALUES, no COLOURS", good("fun()s:ret 0").colour(0), 0);
    }

    /** 15: "NONE without COLOURS". */
    private static void lowerNeedsColours() {
        PaletteHouse x = new PaletteHouse();
        due("15: no function", x.lower(), NONE);
        Check.feed(x, States.THREE);
        due("15: no read()", x.lower(), NONE);
        x.read();
        due("15: no COLOURS", x.lower(), NONE);
        due("15: no ROWS", x.count(7), 0);
        x.colour(2);
        due("15: a refused colour()", x.lower(), NONE);
        x.colour(1);
        due("15: COLOURS", x.lower(), 6);
        due("15: again", x.lower(), 6);
        x.fit(1);
        due("15: a fit() that told -2", x.lower(), 6);
        x.fit(3);
        due("15: a fit() that told 0", x.lower(), NONE);
        x.fit(3);
        due("15: and one more", x.lower(), NONE);
        due("15: no COLOUR", x.value(0, 3), NONE);
        x.colour(0);
        due("15: COLOURS again", x.lower(), 6);
        Check.feed(x, "fun()s:ret z");
        x.read();
        due("15: a FAULT", x.lower(), 6);
        Check.feed(x, "fun()s:ret 0");
        x.read();
        due("15: a new function", x.lower(), NONE);
        due("15: it has none", x.colour(0), 0);
        due("15: but it was coloured", x.lower(), 1);
    }

    /** 16: "NONE without"; "NONE, 0 where it has none such"; "NONE for others". */
    private static void codeNoneForOthers() {
        PaletteHouse x = good("fun(a)s:if a t u t:b=add a -1 put b 5 ret -1 u:ret b2".replace("b2", "a"));
        int[][] want = {{20, NONE, 0, 0, NONE, 0, 1, 4}, {3, 0, 0, 0, NONE, -1, NONE, NONE},
            {18, NONE, 0, 0, NONE, 5, NONE, NONE}, {21, NONE, NONE, -1, NONE, 0, NONE, NONE},
            {21, NONE, 0, 0, NONE, 0, NONE, NONE}};
        due("16: no CODE", x.code(0, 0), NONE);
        x.colour(0);
        due("16: COLOURS are no CODE", x.code(0, 0), NONE);
        x.lower();
        for (int r = -2; r <= 6; r++) {
            for (int what = -2; what <= 9; what++) {
                boolean there = r >= 0 && r <= 4 && what >= 0 && what <= 7;
                due("16: code(" + r + "," + what + ")", x.code(r, what), there ? want[r][what] : NONE);
            }
        }
        for (int far : new int[] {1000, 1500, MAX, MIN}) {
            due("16: code(" + far + ",0)", x.code(far, 0), NONE);
            due("16: code(0," + far + ")", x.code(0, far), NONE);
        }
        due("16: no function", new PaletteHouse().code(0, 0), NONE);
    }

    /** 17: "NONE, and none comes, if it has 50". */
    private static void inputUpTo50() {
        PaletteHouse x = good("fun()s:go h h:i=phi s 0,h j v=in out v j=add i 1 c=lt j 51 if c h e e:ret 0");
        for (int n = 1; n <= 50; n++) {
            due("17: input " + n, x.input(n * 3), n);
        }
        due("17: input 51", x.input(7), NONE);
        due("17: input 52", x.input(MIN), NONE);
        x.run(false, 5000);
        for (int i = 0; i < 50; i++) {
            due("17: number " + i, x.output(false, i), i * 3 + 3);
        }
        due("17: behind all", x.output(false, 50), 0);
        due("17: 51 were put out", x.told(false, 3), 51);
        due("17: 50 were taken", x.told(false, 4), 50);
        due("17: it has 50", x.clear(), 50);
        due("17: then there is room", x.input(MAX), 1);
    }

    /** 18: "The INPUT is empty: how many it had". */
    private static void clearTellsHowMany() {
        PaletteHouse x = good("fun(a,b)s:out a ret b");
        due("18: of none", x.clear(), 0);
        for (int n = 1; n <= 50; n++) {
            for (int i = 0; i < n && n % 10 < 2; i++) {
                x.input(i);
            }
            due("18: of " + n, x.clear(), n % 10 < 2 ? n : 0);
        }
        x.input(4);
        x.run(false, 9);
        due("18: a RUN takes none away", x.clear(), 1);
        due("18: its RUN stays", x.output(false, 0), 4);
        x.run(false, 9);
        due("18: none is left", x.output(false, 0), 0);
        due("18: none was taken", x.told(false, 4), 0);
    }

    /** 19: "NONE, and nothing happens, without such a one". */
    private static void runNeedsOne() {
        for (int state = 0; state < States.COUNT; state++) {
            PaletteHouse x = States.at(state);
            String name = "19: " + States.name(state);
            due(name + ", function", x.run(false, 3), States.hasFunction(state) ? 0 : NONE);
            due(name + ", its STEPS", x.told(false, 1), States.hasFunction(state) ? 3 : NONE);
            x = States.at(state);
            due(name + ", CODE", x.run(true, 3), States.hasCode(state) ? 0 : NONE);
            due(name + ", its STEPS", x.told(true, 1), States.hasCode(state) ? 3 : NONE);
        }
        PaletteHouse x = States.at(6);
        int steps = x.told(true, 1);
        x.colour(0);
        due("19: colour() drops the CODE", x.run(true, 3), NONE);
        due("19: told as ahead of it", x.told(true, 1), steps);
        x.lower();
        due("19: lower() brings it", x.run(true, 3), 0);
        due("19: told anew", x.told(true, 1), 3);
    }

    /** 19: "or if fuel is not 1 .. 5,000". */
    private static void runOneTo5000() {
        for (int fuel : new int[] {MIN, -5000, -1, 0, 1, 2, 4999, 5000, 5001, 5002, MAX}) {
            boolean taken = fuel >= 1 && fuel <= 5000;
            for (int n = 0; n < 2; n++) {
                PaletteHouse x = good("fun()s:go t t:go t");
                x.colour(0);
                x.lower();
                String name = "19: run(" + (n == 1) + "," + fuel + ")";
                due(name, x.run(n == 1, fuel), taken ? 0 : NONE);
                due(name + ", told", x.told(n == 1, 0), taken ? 0 : NONE);
                due(name + ", STEPS", x.told(n == 1, 1), taken ? fuel : NONE);
                due(name + ", the other", x.told(n == 0, 0), NONE);
            }
        }
    }

    /** 20: "NONE without a RUN, or for another what". */
    private static void toldNoneForOthers() {
        PaletteHouse x = States.at(5);
        for (int what = -2; what <= 6; what++) {
            due("20: without a RUN", x.told(false, what), NONE);
            due("20: without a RUN", x.told(true, what), NONE);
        }
        x.run(false, 4);
        int[] want = {0, 4, 0, 0, 1};
        for (int what = -2; what <= 6; what++) {
            due("20: told(false," + what + ")", x.told(false, what), what >= 0 && what <= 4 ? want[what] : NONE);
            due("20: not of the CODE", x.told(true, what), NONE);
        }
        x.run(true, 7);
        int[] more = {0, 7, 0, 1, 1};
        for (int what = -2; what <= 6; what++) {
            due("20: told(true," + what + ")", x.told(true, what), what >= 0 && what <= 4 ? more[what] : NONE);
            due("20: the function's stays", x.told(false, what), what >= 0 && what <= 4 ? want[what] : NONE);
        }
        for (int far : new int[] {MAX, MIN}) {
            due("20: told(true," + far + ")", x.told(true, far), NONE);
            due("20: told(false," + far + ")", x.told(false, far), NONE);
        }
    }

    /** 20: "(3; the first 100 are kept)": how many there are is told whole. */
    private static void toldTheFirst100AreKept() {
        for (int n : new int[] {1, 99, 100, 101, 200}) {
            PaletteHouse x = good("fun()s:go h h:i=phi s 0,h j j=add i 1 out j c=lt j " + n + " if c h e e:ret j");
            x.colour(0);
            x.lower();
            for (int k = 0; k < 2; k++) {
                x.run(k == 1, 5000);
                due("20: OUTPUT of " + n, x.told(k == 1, 3), n);
                for (int i = 0; i <= 101; i++) {
                    due("21: number " + i + " of " + n, x.output(k == 1, i), i < n && i < 100 ? i + 1 : 0);
                }
            }
        }
    }

    /** 20: "since read()". */
    private static void toldSinceRead() {
        PaletteHouse x = States.at(6);
        int steps = x.told(true, 1);
        due("20: the function's", x.told(false, 1), 12);
        x.colour(1);
        due("20: behind colour()", x.told(true, 1), steps);
        x.lower();
        due("20: behind lower()", x.told(true, 1), steps);
        x.fit(3);
        due("20: behind fit()", x.told(true, 1), steps);
        x.clear();
        due("20: behind clear()", x.told(true, 4), 1);
        x.read();
        due("20: behind a FAULT", x.told(true, 1), steps);
        due("20: behind a FAULT", x.told(false, 1), 12);
        x.run(false, 0);
        due("20: behind a refused run()", x.told(false, 1), 12);
        Check.feed(x, States.FLIP);
        x.read();
        due("20: behind read()", x.told(true, 1), NONE);
        due("20: behind read()", x.told(false, 1), NONE);
        due("20: behind read()", x.output(true, 0), 0);
        due("20: behind read()", x.memory(true, 3), 0);
        x.run(false, 2);
        due("20: a new RUN", x.told(false, 1), 2);
        due("20: of the CODE none yet", x.told(true, 1), NONE);
    }

    /** 21: "0 without one". */
    private static void outputZeroWithout() {
        PaletteHouse x = good("fun(a)s:out 5 out a out 7 ret 0");
        due("21: without a RUN", x.output(false, 0), 0);
        x.input(6);
        x.run(false, 9);
        int[] want = {5, 6, 7};
        for (int i = -2; i <= 5; i++) {
            due("21: output(" + i + ")", x.output(false, i), i >= 0 && i < 3 ? want[i] : 0);
            due("21: of the CODE", x.output(true, i), 0);
        }
        due("21: far", x.output(false, MAX), 0);
        due("21: far", x.output(false, MIN), 0);
        x.run(false, 2);
        due("21: of the latest RUN", x.output(false, 1), 6);
        due("21: no third one now", x.output(false, 2), 0);
        due("21: no function", new PaletteHouse().output(false, 0), 0);
        due("21: no function", new PaletteHouse().output(true, 0), 0);
    }

    /** 22: "0 without one". */
    private static void memoryZeroWithout() {
        PaletteHouse x = good("fun(a)s:put 0 5 put 63 6 put 1 a ret 0");
        due("22: without a RUN", x.memory(false, 0), 0);
        x.input(7);
        x.run(false, 9);
        for (int a = -2; a <= 130; a++) {
            int want = a == 0 ? 5 : a == 1 ? 7 : a == 63 ? 6 : 0;
            due("22: memory(" + a + ")", x.memory(false, a), want);
            due("22: of the CODE", x.memory(true, a), 0);
        }
        for (int far : new int[] {MAX, MIN, -63, -64, 4096}) {
            due("22: memory(" + far + ")", x.memory(false, far), 0);
        }
        x.run(false, 1);
        due("22: of the latest RUN", x.memory(false, 0), 5);
        due("22: not put now", x.memory(false, 63), 0);
        due("22: no function", new PaletteHouse().memory(false, 0), 0);
        due("22: no function", new PaletteHouse().memory(true, 0), 0);
    }

    /** 23: "0 without such things". */
    private static void countZeroWithout() {
        PaletteHouse x = new PaletteHouse();
        for (int what = 0; what <= 12; what++) {
            due("23: new, " + what, x.count(what), 0);
        }
        Check.feed(x, "fun()s:ret z");
        due("23: bytes", x.count(12), 12);
        x.read();
        for (int what = 0; what <= 12; what++) {
            due("23: behind a FAULT, " + what, x.count(what), 0);
        }
        Check.feed(x, "fun()s:ret 0");
        x.read();
        for (int what = 0; what <= 12; what++) {
            due("23: the least function, " + what, x.count(what), what == 0 || what == 5 ? 1 : 0);
        }
        x = States.at(4);
        int[] want = {4, 5, 3, 3, 3, 7, 0, 0, 0, 0, 0, 5, 0};
        for (int what = 0; what <= 12; what++) {
            due("23: without CODE, " + what, x.count(what), want[what]);
        }
        x.lower();
        int[] rows = {11, 1, 1, 2};
        for (int what = 7; what <= 10; what++) {
            due("23: with CODE, " + what, x.count(what), rows[what - 7]);
        }
        x.colour(0);
        for (int what = 7; what <= 10; what++) {
            due("23: CODE is gone, " + what, x.count(what), 0);
        }
    }

    /** 23: "NONE for another what". */
    private static void countNoneForAnother() {
        for (int state = 0; state < States.COUNT; state++) {
            PaletteHouse x = States.at(state);
            for (int what : new int[] {MIN, -13, -2, -1, 13, 14, 64, MAX}) {
                due("23: count(" + what + ") of " + States.name(state), x.count(what), NONE);
            }
            due("23: 12 is none other", x.count(12) >= 0, true);
        }
    }

    private static Map<String, ToIntFunction<PaletteHouse>> alwaysRefused() {
        Map<String, ToIntFunction<PaletteHouse>> calls = new LinkedHashMap<>();
        for (int n : new int[] {MIN, -2, -1, MAX}) {
            calls.put("back(" + n + ")", x -> x.back(n));
            calls.put("block(" + n + ",1)", x -> x.block(n, 1));
            calls.put("block(0," + n + ")", x -> x.block(0, n));
            calls.put("value(" + n + ",0)", x -> x.value(n, 0));
            calls.put("value(0," + n + ")", x -> x.value(0, n));
            calls.put("ins(" + n + ",1,0)", x -> x.ins(n, 1, 0));
            calls.put("ins(0," + n + ",0)", x -> x.ins(0, n, 0));
            calls.put("ins(0,1," + n + ")", x -> x.ins(0, 1, n));
            calls.put("pressure(" + n + ",0)", x -> x.pressure(n, 0));
            calls.put("pressure(0," + n + ")", x -> x.pressure(0, n));
            calls.put("clique(" + n + ")", x -> x.clique(n));
            calls.put("fit(" + n + ")", x -> x.fit(n));
            calls.put("colour(" + n + ")", x -> x.colour(n));
            calls.put("code(" + n + ",0)", x -> x.code(n, 0));
            calls.put("code(0," + n + ")", x -> x.code(0, n));
            calls.put("run(false," + n + ")", x -> x.run(false, n));
            calls.put("run(true," + n + ")", x -> x.run(true, n));
            calls.put("told(false," + n + ")", x -> x.told(false, n));
            calls.put("told(true," + n + ")", x -> x.told(true, n));
            calls.put("count(" + n + ")", x -> x.count(n));
        }
        calls.put("back(4001)", x -> x.back(4001));
        calls.put("block(30,0)", x -> x.block(30, 0));
        calls.put("block(0,6)", x -> x.block(0, 6));
        calls.put("value(0,6)", x -> x.value(0, 6));
        calls.put("ins(0,0,0)", x -> x.ins(0, 0, 0));
        calls.put("fit(0)", x -> x.fit(0));
        calls.put("fit(151)", x -> x.fit(151));
        calls.put("colour(2)", x -> x.colour(2));
        calls.put("code(0,8)", x -> x.code(0, 8));
        calls.put("run(false,0)", x -> x.run(false, 0));
        calls.put("run(true,0)", x -> x.run(true, 0));
        calls.put("run(false,5001)", x -> x.run(false, 5001));
        calls.put("run(true,5001)", x -> x.run(true, 5001));
        calls.put("told(true,5)", x -> x.told(true, 5));
        calls.put("count(13)", x -> x.count(13));
        return calls;
    }

    /** "also after calls that were refused": each of them, in each state, leaves all as it was. */
    private static void refusedInEveryState() {
        for (int state = 0; state < States.COUNT; state++) {
            int here = state;
            for (Map.Entry<String, ToIntFunction<PaletteHouse>> call : alwaysRefused().entrySet()) {
                CHECK.refused(call.getKey() + " of " + States.name(state), x -> States.enter(x, here), call.getValue(), NONE);
            }
        }
    }

    /** Calls that are refused for what there is, or is not. */
    private static void refusedInSomeStates() {
        for (int state = 0; state < States.COUNT; state++) {
            int here = state;
            String of = " of " + States.name(state);
            CHECK.refused("a byte too many back" + of, x -> States.enter(x, here), x -> x.back(x.count(12) + 1), NONE);
            CHECK.refused("back(0)" + of, x -> States.enter(x, here), x -> x.back(0) - x.count(12), 0);
            if (!States.hasFunction(state)) {
                CHECK.refused("fit" + of, x -> States.enter(x, here), x -> x.fit(3), NONE);
                CHECK.refused("colour" + of, x -> States.enter(x, here), x -> x.colour(0), NONE);
                CHECK.refused("run" + of, x -> States.enter(x, here), x -> x.run(false, 5), NONE);
            } else {
                CHECK.refused("fit(1)" + of, x -> States.enter(x, here), x -> x.fit(1), -2);
            }
            if (!States.hasColours(state)) {
                CHECK.refused("lower" + of, x -> States.enter(x, here), x -> x.lower(), NONE);
            }
            if (!States.hasCode(state)) {
                CHECK.refused("run of CODE" + of, x -> States.enter(x, here), x -> x.run(true, 5), NONE);
            }
        }
        CHECK.refused("feed of a full tape", x -> States.enter(x, 8), x -> x.feed(1, 2, 3, 4, 5), NONE);
        CHECK.refused("input of a full INPUT", x -> States.enter(x, 8), x -> x.input(5), NONE);
    }
}
