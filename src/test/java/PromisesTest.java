/** Each promise by hand: ordinary inputs, the edges that the document names, and wrong inputs. */
public final class PromisesTest {
    private static final int MIN = Integer.MIN_VALUE;
    private static final int MAX = Integer.MAX_VALUE;
    private static final int NONE = -1;

    /** The greatest common divisor: a loop with two phis that pass a value on. */
    private static final String GCD = "fun (a, b) s: go h h: x = phi s a, l y y = phi s b, l r c = eq y 0 "
        + "if c e l l: r = rem x y go h e: out x ret x";
    /** Two phis that change places, and a counter. */
    private static final String FLIP = "fun (n) s: go h h: a = phi s 1, l b b = phi s 2, l a i = phi s n, l j "
        + "if i l e l: j = sub i 1 put 3 a go h e: r = shl a 4 t = or r b ret t";
    /** Two ways from ifs into one block with phis. */
    private static final String FORK = "fun (a) s: if a t j t: b = add a 1 if b j u u: ret 7 "
        + "j: p = phi s a, t b q = phi t a, s 5 z = sub p q ret z";
    /** Three values that live at once, then fewer. */
    private static final String THREE = "fun() s: a = in b = in c = in d = add a b e = add d c ret e";
    private static final String TINY = "fun() a: ret 0";

    private static final Check CHECK = new Check();

    private PromisesTest() {
    }

    public static void main(String[] args) {
        promise1();
        promise2();
        promise3();
        promise4();
        promise5();
        promise6();
        promise7();
        promise8();
        promise9();
        promise10();
        promise11();
        promise12();
        promise13();
        promise14();
        promise15();
        promise16();
        promise17();
        promise18();
        promise19();
        promise20();
        promise21();
        promise22();
        promise23();
        CHECK.end("PromisesTest");
    }

    private static void due(String call, int got, int want) {
        CHECK.due(call, got, want);
    }

    private static void due(String call, boolean got, boolean want) {
        CHECK.due(call, got, want);
    }

    private static void promise1() {
        due("NONE", PaletteHouse.NONE, -1);
        PaletteHouse x = new PaletteHouse();
        due("1: tape", x.count(12), 0);
        due("1: INPUT", x.clear(), 0);
        due("1: place", x.place(), NONE);
        due("1: block", x.block(0, 1), NONE);
        due("1: value", x.value(0, 0), NONE);
        due("1: ins", x.ins(0, 1, 0), NONE);
        due("1: live", x.live(0, 0, 0), false);
        due("1: pressure", x.pressure(0, 0), NONE);
        due("1: clique", x.clique(0), NONE);
        due("1: meet", x.meet(0, 1), false);
        due("1: fit", x.fit(5), NONE);
        due("1: colour", x.colour(0), NONE);
        due("1: lower", x.lower(), NONE);
        due("1: code", x.code(0, 0), NONE);
        due("1: run", x.run(false, 5), NONE);
        due("1: run", x.run(true, 5), NONE);
        due("1: told", x.told(false, 0), NONE);
        due("1: told", x.told(true, 0), NONE);
        due("1: output", x.output(false, 0), 0);
        due("1: output", x.output(true, 0), 0);
        due("1: memory", x.memory(false, 0), 0);
        due("1: memory", x.memory(true, 0), 0);
        for (int what = 0; what <= 12; what++) {
            due("1: count " + what, x.count(what), 0);
        }
    }

    private static void promise2() {
        PaletteHouse x = new PaletteHouse();
        // "fun(" ") a:" " ret" " 0  " and four blanks.
        due("2: feed", x.feed(0x66756e28, 0x2920613a, 0x20726574, 0x20302020, 0x20202020), 20);
        due("2: the highest byte comes first", x.read(), 0);
        for (int n = 1; n <= 200; n++) {
            due("2: feed " + n, x.feed(-1, 0, MIN, MAX, n), 20 * n);
        }
        due("2: full", x.feed(0, 0, 0, 0, 0), NONE);
        due("2: nothing came", x.count(12), 4000);
        x.back(19);
        due("2: 3981 and 20", x.feed(0, 0, 0, 0, 0), NONE);
        due("2: nothing came", x.count(12), 3981);
        x.back(1);
        due("2: 3980 and 20", x.feed(0, 0, 0, 0, 0), 4000);
        due("2: bytes above 127 are no token", x.read(), 1);
        due("2: place", x.place(), 0);
    }

    private static void promise3() {
        PaletteHouse x = new PaletteHouse();
        due("3: back(0)", x.back(0), 0);
        due("3: back(1)", x.back(1), NONE);
        Check.feed(x, TINY + "zz(");
        due("3: too many", x.back(18), NONE);
        due("3: below 0", x.back(-1), NONE);
        due("3: below 0", x.back(MIN), NONE);
        due("3: too many", x.back(MAX), NONE);
        due("3: back", x.back(3), 14);
        due("3: the last ones went", x.read(), 0);
        Check.feed(x, TINY);
        due("3: all", x.back(14), 0);
        due("3: the empty tape", x.read(), 1);
        due("3: place", x.place(), 0);
    }

    private static void promise4() {
        PaletteHouse x = CHECK.good(GCD);
        due("4: the tape is empty", x.count(12), 0);
        x.fit(3);
        x.colour(0);
        x.lower();
        x.input(6);
        x.run(false, 50);
        x.run(true, 50);
        Check.feed(x, "fun() a: ret z");
        due("4: NAME", x.read(), 4);
        due("4: the tape is empty then, too", x.count(12), 0);
        due("4: the function stays", x.count(0), 4);
        due("4: the COLOURS stay", x.value(0, 3), 0);
        due("4: the CODE stays", x.count(7), 8);
        due("4: the RUN stays", x.told(true, 0), 1);
        due("4: the RUN stays", x.told(false, 0), 1);
        Check.feed(x, TINY);
        due("4: read", x.read(), 0);
        due("4: BLOCKS", x.count(0), 1);
        due("4: VALUES", x.count(1), 0);
        due("4: no COLOURS", x.lower(), NONE);
        due("4: no CODE", x.count(7), 0);
        due("4: no CODE", x.code(0, 0), NONE);
        due("4: no CODE", x.run(true, 5), NONE);
        due("4: no RUN", x.told(false, 0), NONE);
        due("4: no RUN", x.told(true, 0), NONE);
        due("4: the INPUT stays", x.clear(), 1);
        x = CHECK.good(THREE);
        x.fit(2);
        Check.feed(x, THREE);
        due("4: read again", x.read(), 0);
        due("4: no SLOTS", x.count(6), 0);
        due("4: no SLOT", x.value(2, 4), NONE);
        due("4: no LOADS", x.count(1), 5);
    }

    private static void promise5() {
        PaletteHouse x = Check.houseOf("fun() a: ret 0 ?");
        due("5: place", x.place(), 15);
        x.feed(0, 0, 0, 0, 0);
        due("5: feed changes nothing", x.place(), 15);
        x.read();
        due("5: the latest", x.place(), 0);
        Check.feed(x, "fun() a: ");
        x.read();
        due("5: the text's end", x.place(), 9);
        Check.feed(x, TINY);
        x.read();
        due("5: without", x.place(), NONE);
    }

    private static void promise6() {
        PaletteHouse x = CHECK.good(GCD);
        int[][] want = {{NONE, 0, 0, 0, 0, 0}, {0, 1, 1, 2, 2, 1}, {1, 2, 1, 0, 1, 0}, {1, 3, 1, 0, 1, 2}};
        for (int b = 0; b < want.length; b++) {
            for (int what = 0; what < 6; what++) {
                due("6: block(" + b + "," + what + ")", x.block(b, what), want[b][what]);
            }
            due("6: what", x.block(b, 6), NONE);
            due("6: what", x.block(b, -1), NONE);
            due("6: what", x.block(b, MAX), NONE);
        }
        due("6: b", x.block(4, 1), NONE);
        due("6: b", x.block(-1, 1), NONE);
        due("6: b", x.block(MIN, 1), NONE);
        due("6: b", x.block(MAX, 5), NONE);
        // c is below a, but stands behind d, which is not.
        x = CHECK.good("fun(v) r: if v a d d: go e e: ret 1 a: go c c: if v e f f: ret 2");
        int[] idoms = {NONE, 0, 0, 0, 3, 4};
        int[] order = {0, 1, 2, 3, 4, 5};
        for (int b = 0; b < 6; b++) {
            due("6: IDOM of " + b, x.block(b, 0), idoms[b]);
            due("6: ORDER of " + b, x.block(b, 1), order[b]);
        }
        // The child with the least number comes first, with all below it, though they have greater numbers.
        x = CHECK.good("fun(v) r: if v a d a: go z d: ret 1 z: ret 2");
        due("6: ORDER of d", x.block(2, 1), 3);
        due("6: ORDER of z", x.block(3, 1), 2);
    }

    private static void promise7() {
        PaletteHouse x = CHECK.good(GCD);
        int[][] want = {{0, 0, 1, NONE, NONE, 1}, {0, 0, 1, NONE, NONE, 1}, {1, 0, 3, NONE, NONE, 5},
            {1, 0, 3, NONE, NONE, 4}, {1, 1, 1, NONE, NONE, 1}, {2, 1, 1, NONE, NONE, 1}};
        for (int v = 0; v < want.length; v++) {
            for (int what = 0; what < 6; what++) {
                due("7: value(" + v + "," + what + ")", x.value(v, what), want[v][what]);
            }
            due("7: what", x.value(v, 6), NONE);
            due("7: what", x.value(v, -1), NONE);
        }
        due("7: v", x.value(6, 0), NONE);
        due("7: v", x.value(-1, 0), NONE);
        due("7: v", x.value(MIN, 5), NONE);
        due("7: v", x.value(MAX, 5), NONE);
        x.colour(0);
        due("7: COLOUR", x.value(4, 3), 2);
        x = CHECK.good("fun(a) s: b = add a a put a b ret a");
        due("7: each VAL is a USE", x.value(0, 2), 4);
        due("7: LIVE", x.value(0, 5), 3);
        x = CHECK.good(THREE);
        x.fit(2);
        due("7: SLOT", x.value(2, 4), 0);
        due("7: SLOT", x.value(1, 4), 1);
        due("7: no SLOT", x.value(0, 4), NONE);
        due("7: LOAD has no SLOT of its own", x.value(5, 4), NONE);
        due("7: LOAD's POINT", x.value(5, 1), 8);
        due("7: moved by SAVE", x.value(2, 1), 4);
    }

    private static void promise8() {
        PaletteHouse x = CHECK.good("fun(a) s: b = copy a c = neg -7 d = not a e = add a b f = sub 1 a g = mul a 2 "
            + "h = div 3 -4 i = rem a a j = and a b k = or a b l = xor a b m = shl a b n = shr a b o = lt a b "
            + "p = eq a b q = in r = get 5 out b put -1 r ret 0");
        for (int i = 1; i <= 19; i++) {
            due("8: OP", x.ins(0, i, 0), i - 1);
            due("8: result", x.ins(0, i, 1), i <= 17 ? i : NONE);
        }
        int[][] want = {{1, 0, 0, NONE, 0}, {2, NONE, -7, NONE, 0}, {4, 0, 0, 1, 0}, {5, NONE, 1, 0, 0},
            {6, 0, 0, NONE, 2}, {7, NONE, 3, NONE, -4}, {16, NONE, 0, NONE, 0}, {17, NONE, 5, NONE, 0},
            {18, 1, 0, NONE, 0}, {19, NONE, -1, 17, 0}};
        for (int[] row : want) {
            for (int what = 2; what <= 5; what++) {
                due("8: ins(0," + row[0] + "," + what + ")", x.ins(0, row[0], what), row[what - 1]);
            }
        }
        int[][] wrong = {{0, 0, 0}, {0, 20, 0}, {0, 1, 6}, {0, 1, -1}, {1, 1, 0}, {-1, 1, 0}, {0, MIN, 0}, {0, MAX, 1},
            {MAX, MAX, MAX}, {MIN, MIN, MIN}, {0, -1, 1}, {0, 1, 7}};
        for (int[] row : wrong) {
            due("8: wrong", x.ins(row[0], row[1], row[2]), NONE);
        }
        x = CHECK.good(THREE);
        x.fit(2);
        int[][] fitted = {{15, 0, NONE, 0, NONE, 0}, {15, 1, NONE, 0, NONE, 0}, {25, NONE, 1, 1, NONE, 0},
            {15, 2, NONE, 0, NONE, 0}, {25, NONE, 2, 0, NONE, 0}, {26, 6, NONE, 1, NONE, 0}, {3, 3, 0, 0, 6, 0},
            {26, 5, NONE, 0, NONE, 0}, {3, 4, 3, 0, 5, 0}};
        for (int i = 0; i < fitted.length; i++) {
            for (int what = 0; what < 6; what++) {
                due("8: fitted ins(0," + (i + 1) + "," + what + ")", x.ins(0, i + 1, what), fitted[i][what]);
            }
        }
    }

    private static void promise9() {
        PaletteHouse x = CHECK.good(GCD);
        due("9: a", x.live(0, 0, 0), true);
        due("9: a is used at the end of s", x.live(1, 0, 0), false);
        due("9: x at the begin", x.live(1, 0, 2), true);
        due("9: y at e", x.live(3, 0, 3), false);
        due("9: x at e", x.live(3, 0, 2), true);
        due("9: y at the end of l", x.live(2, 1, 3), true);
        due("9: r behind its definition only", x.live(2, 0, 5), false);
        due("9: r", x.live(2, 1, 5), true);
        due("9: x behind its last use", x.live(2, 1, 2), false);
        due("9: no such POINT", x.live(0, 1, 0), false);
        due("9: no such POINT", x.live(0, -1, 0), false);
        due("9: no such POINT", x.live(4, 0, 0), false);
        due("9: no such POINT", x.live(-1, 0, 0), false);
        due("9: no such POINT", x.live(MAX, MAX, 0), false);
        due("9: no such VALUE", x.live(0, 0, 6), false);
        due("9: no such VALUE", x.live(0, 0, -1), false);
        due("9: no such VALUE", x.live(0, 0, MIN), false);
        x = CHECK.good("fun(a) s: b = in out 1 ret 2");
        due("9: unused, at its POINT", x.live(0, 0, 0), true);
        due("9: unused, behind", x.live(0, 1, 0), false);
        due("9: unused, at its POINT", x.live(0, 1, 1), true);
        due("9: unused, behind", x.live(0, 2, 1), false);
        x = CHECK.good("fun(a) s: go l l: if 1 l e e: ret a");
        due("9: through a loop", x.live(1, 0, 0), true);
    }

    private static void promise10() {
        PaletteHouse x = CHECK.good(GCD);
        int[][] want = {{2}, {2, 3}, {2, 2}, {1, 1}};
        for (int b = 0; b < want.length; b++) {
            for (int i = 0; i < want[b].length; i++) {
                due("10: pressure(" + b + "," + i + ")", x.pressure(b, i), want[b][i]);
            }
            due("10: none such", x.pressure(b, want[b].length), NONE);
            due("10: none such", x.pressure(b, -1), NONE);
        }
        due("10: none such", x.pressure(4, 0), NONE);
        due("10: none such", x.pressure(-1, 0), NONE);
        due("10: none such", x.pressure(MIN, MAX), NONE);
        due("10: nobody", CHECK.good(TINY).pressure(0, 0), 0);
    }

    private static void promise11() {
        PaletteHouse x = CHECK.good(GCD);
        int[] want = {2, 3, 4, NONE, NONE};
        for (int i = 0; i < want.length; i++) {
            due("11: clique(" + i + ")", x.clique(i), want[i]);
        }
        due("11: below", x.clique(-1), NONE);
        due("11: far", x.clique(MAX), NONE);
        due("11: far below", x.clique(MIN), NONE);
        due("11: empty", CHECK.good(TINY).clique(0), NONE);
        x = CHECK.good("fun() s: a = in out a b = in out b ret 0");
        due("11: of the first such POINT", x.clique(0), 0);
        due("11: of it alone", x.clique(1), NONE);
    }

    private static void promise12() {
        PaletteHouse x = CHECK.good(GCD);
        due("12: a b", x.meet(0, 1), true);
        due("12: b a", x.meet(1, 0), true);
        due("12: a x", x.meet(0, 2), false);
        due("12: y r", x.meet(3, 5), true);
        due("12: x r", x.meet(2, 5), false);
        due("12: itself", x.meet(2, 2), false);
        due("12: no such", x.meet(0, 6), false);
        due("12: no such", x.meet(-1, 0), false);
        due("12: no such", x.meet(MIN, MAX), false);
    }

    private static void promise13() {
        PaletteHouse x = CHECK.good(THREE);
        due("13: k", x.fit(0), NONE);
        due("13: k", x.fit(-1), NONE);
        due("13: k", x.fit(151), NONE);
        due("13: k", x.fit(MIN), NONE);
        due("13: k", x.fit(MAX), NONE);
        x.colour(0);
        x.lower();
        due("13: another k keeps the CODE", x.fit(0), NONE);
        due("13: kept", x.count(7), 6);
        due("13: fit(1) has none to choose", x.fit(1), -2);
        due("13: it keeps the CODE", x.count(7), 6);
        due("13: and the COLOURS", x.value(2, 3), 2);
        due("13: and the function", x.count(2), 5);
        due("13: and no SLOTS", x.count(6), 0);
        due("13: fit(150)", x.fit(150), 0);
        due("13: no CODE", x.count(7), 0);
        due("13: no COLOURS", x.value(2, 3), NONE);
        due("13: lower", x.lower(), NONE);
        due("13: fit(2)", x.fit(2), 2);
        due("13: INS", x.count(2), 9);
        due("13: VALUES", x.count(1), 7);
        due("13: SLOTS", x.count(6), 2);
        due("13: MAXLIVE", x.count(4), 2);
        due("13: again", x.fit(2), 0);
        due("13: too few after that", x.fit(1), -2);
        due("13: SLOTS as ahead of it", x.count(6), 2);
        due("13: INS as ahead of it", x.count(2), 9);
        due("13: three PARAMETERS in two", CHECK.good("fun(a,b,c) s: out a out b out c ret 0").fit(2), -2);
        fitsAtEnds();
        fitsTooMany();
        fitsJust(94, 4, 500);
        fitsJust(95, -2, 99);
    }

    /** Four SLOTS with 402 LOADS: with so many VALUES ahead of them that there are 500 then, or one more. */
    private static void fitsJust(int fillers, int want, int values) {
        StringBuilder s = new StringBuilder("fun() s:");
        for (int v = 0; v < fillers; v++) {
            s.append("f").append(v).append("=in ");
        }
        s.append("a=in b=in x=in y=in put x y ");
        for (int n = 0; n < 200; n++) {
            s.append("put a b ");
        }
        PaletteHouse x = CHECK.good(s.append("ret 0").toString());
        due("13: fit with " + fillers, x.fit(2), want);
        due("13: VALUES with " + fillers, x.count(1), values);
        x.colour(0);
        x.lower();
        due("13: run with " + fillers, x.run(true, 5000), 1);
    }

    /** An ARM and an END: the LOAD is the BLOCK's last INS, and one for all of these. A PHI's result: SAVE is first. */
    private static void fitsAtEnds() {
        PaletteHouse x = CHECK.good("fun(n) s: go h h: i = phi s n, h j j = sub i 1 a = in b = in c = add a b "
            + "out c out c out c out c out b out b out b out a out a out a if j h e e: ret j");
        due("13: j has the fewest USES", x.fit(3), 1);
        due("13: SLOT", x.value(2, 4), 0);
        due("13: INS", x.count(2), 17);
        due("13: SAVE behind j", x.ins(1, 2, 0), 25);
        due("13: of j", x.ins(1, 2, 2), 2);
        due("13: the SAVE is its only USE", x.value(2, 2), 1);
        due("13: LOAD is the last INS", x.ins(1, 16, 0), 26);
        due("13: the next number", x.ins(1, 16, 1), 6);
        due("13: for the if and the ARM", x.value(6, 2), 2);
        due("13: LOAD for ret", x.ins(2, 1, 0), 26);
        due("13: the number behind", x.ins(2, 1, 1), 7);
        due("13: for ret", x.value(7, 2), 1);
        x = CHECK.good("fun(n) s: go h h: i = phi s n a = in b = in c = add a b out c out b out b out a out a out c ret i");
        due("13: i has the fewest USES", x.fit(3), 1);
        due("13: SAVE is the first INS", x.ins(1, 1, 0), 25);
        due("13: of i", x.ins(1, 1, 2), 1);
        due("13: i stands at the begin", x.value(1, 1), 0);
        due("13: a has moved", x.value(2, 1), 2);
        due("13: LOAD is the last INS", x.ins(1, 11, 0), 26);
        // Of several with the fewest USES the greatest number: t (1) ahead of k (2), then k.
        x = CHECK.good("fun(n) s: k = in go h h: i = phi s n, h j j = sub i 1 t = add j j u = sub t j "
            + "out u if j h e e: q = add k k ret q");
        due("13: MAXLIVE", x.count(4), 3);
        due("13: fit", x.fit(2), 2);
        due("13: t is the first", x.value(4, 4), 0);
        due("13: k is the second", x.value(1, 4), 1);
        due("13: SAVE behind in", x.ins(0, 2, 0), 25);
        due("13: LOAD ahead of add", x.ins(2, 1, 0), 26);
        due("13: one LOAD for both VALS", x.ins(2, 2, 2), 8);
        due("13: one LOAD for both VALS", x.ins(2, 2, 4), 8);
        due("13: its USES", x.value(8, 2), 2);
    }

    /** Values that are used so often that the LOADS would be too many. */
    private static void fitsTooMany() {
        StringBuilder s = new StringBuilder("fun() s:");
        for (int v = 0; v < 100; v++) {
            s.append("v").append(v).append("=in ");
        }
        for (int n = 0; n < 225; n++) {
            s.append("put v").append(n * 2 % 100).append(" v").append((n * 2 + 1) % 100).append(" ");
        }
        PaletteHouse x = CHECK.good(s.append("ret 0").toString());
        due("13: MAXLIVE", x.count(4), 100);
        due("13: with two registers", x.fit(2), -2);
        due("13: as ahead of it", x.count(1), 100);
        due("13: as ahead of it", x.count(2), 325);
        due("13: as ahead of it", x.count(6), 0);
        due("13: as ahead of it", x.value(99, 4), NONE);
        due("13: with 60 there is room", x.fit(60), 42);
    }

    private static void promise14() {
        PaletteHouse x = CHECK.good("fun(a, b) s: out a c = copy b ret c");
        due("14: how", x.colour(2), NONE);
        due("14: how", x.colour(-1), NONE);
        due("14: how", x.colour(MIN), NONE);
        due("14: nothing happens", x.value(0, 3), NONE);
        due("14: colour(0)", x.colour(0), 2);
        due("14: a", x.value(0, 3), 0);
        due("14: b", x.value(1, 3), 1);
        due("14: c has the least", x.value(2, 3), 0);
        x.lower();
        due("14: another how", x.colour(3), NONE);
        due("14: keeps the CODE", x.count(7), 3);
        due("14: colour(1)", x.colour(1), 2);
        due("14: no CODE", x.count(7), 0);
        due("14: c has what b wants", x.value(2, 3), 1);
        due("14: none", CHECK.good(TINY).colour(1), 0);
        // The result of a PHI counts each of its ARMS: b's two wishes are more than a's one.
        x = CHECK.good("fun(a, b) s: if a t u t: go j u: if b j w w: go j "
            + "j: p = phi t a, u b, w b ret p");
        due("14: colour(0)", x.colour(0), 2);
        due("14: p", x.value(2, 3), 0);
        due("14: colour(1)", x.colour(1), 2);
        due("14: p", x.value(2, 3), 1);
        // The one at hand is an ARM of a PHI that has its COLOUR already.
        x = CHECK.good("fun(a, b) s: out a go h h: p = phi s b, l q if p l e l: q = in go h e: ret 0");
        due("14: colour(1)", x.colour(1), 2);
        due("14: p as b", x.value(2, 3), 1);
        due("14: q as p", x.value(3, 3), 1);
        due("14: colour(0)", x.colour(0), 2);
        due("14: q has the least", x.value(3, 3), 0);
    }

    private static void promise15() {
        PaletteHouse x = CHECK.good(GCD);
        due("15: without COLOURS", x.lower(), NONE);
        x.colour(0);
        due("15: lower", x.lower(), 8);
        due("15: again", x.lower(), 8);
        x = CHECK.good(FORK);
        x.colour(0);
        due("15: with EDGES", x.lower(), 10);
        x = CHECK.good(TINY);
        x.colour(0);
        due("15: no VALUES, but COLOURS", x.lower(), 1);
    }

    private static void rows(String name, PaletteHouse x, int[][] want) {
        due(name, x.lower(), want.length);
        for (int r = 0; r < want.length; r++) {
            for (int what = 0; what < 8; what++) {
                due(name + " code(" + r + "," + what + ")", x.code(r, what), want[r][what]);
            }
            due(name + " what", x.code(r, 8), NONE);
            due(name + " what", x.code(r, -1), NONE);
        }
        due(name + " behind", x.code(want.length, 0), NONE);
        due(name + " ahead", x.code(-1, 0), NONE);
        due(name + " far", x.code(MAX, 0), NONE);
        due(name + " far", x.code(MIN, MIN), NONE);
    }

    private static void promise16() {
        PaletteHouse x = CHECK.good(FLIP);
        x.colour(0);
        due("16: no CODE yet", x.code(0, 0), NONE);
        rows("16: FLIP", x, new int[][] {{22, 2, 0, 0, NONE, 0, NONE, NONE}, {24, 0, NONE, 1, NONE, 0, NONE, NONE},
            {24, 1, NONE, 2, NONE, 0, NONE, NONE}, {19, NONE, NONE, 0, NONE, 0, 4, NONE},
            {20, NONE, 2, 0, NONE, 0, 5, 9}, {4, 2, 2, 0, NONE, 1, NONE, NONE},
            {18, NONE, NONE, 3, 0, 0, NONE, NONE}, {23, 0, 1, 0, NONE, 0, NONE, NONE},
            {19, NONE, NONE, 0, NONE, 0, 4, NONE}, {11, 0, 0, 0, NONE, 4, NONE, NONE},
            {9, 0, 0, 0, 1, 0, NONE, NONE}, {21, NONE, 0, 0, NONE, 0, NONE, NONE}});
        x = CHECK.good(FORK);
        x.colour(0);
        rows("16: FORK", x, new int[][] {{20, NONE, 0, 0, NONE, 0, 1, 6}, {3, 1, 0, 0, NONE, 1, NONE, NONE},
            {20, NONE, 1, 0, NONE, 0, 8, 3}, {21, NONE, NONE, 7, NONE, 0, NONE, NONE},
            {4, 0, 0, 0, 1, 0, NONE, NONE}, {21, NONE, 0, 0, NONE, 0, NONE, NONE},
            {24, 1, NONE, 5, NONE, 0, NONE, NONE}, {19, NONE, NONE, 0, NONE, 0, 4, NONE},
            {23, 0, 1, 0, NONE, 0, NONE, NONE}, {19, NONE, NONE, 0, NONE, 0, 4, NONE}});
        // An if's way into a BLOCK of its own: the MOVES are this one's ENTRY, and they count as its begin.
        x = CHECK.good("fun(a, b) s: if a t u t: p = phi s b q = phi s a r = sub p q ret r u: ret 0");
        x.colour(0);
        rows("16: ENTRY", x, new int[][] {{20, NONE, 0, 0, NONE, 0, 1, 4}, {23, 0, 1, 0, NONE, 0, NONE, NONE},
            {4, 0, 0, 0, 1, 0, NONE, NONE}, {21, NONE, 0, 0, NONE, 0, NONE, NONE},
            {21, NONE, NONE, 0, NONE, 0, NONE, NONE}});
        // Three that go round: two SWAPS do it.
        x = CHECK.good("fun(a, b, c) s: go t t: p = phi s b q = phi s c r = phi s a put p q ret r");
        x.colour(0);
        rows("16: three", x, new int[][] {{23, 0, 1, 0, NONE, 0, NONE, NONE}, {23, 1, 2, 0, NONE, 0, NONE, NONE},
            {19, NONE, NONE, 0, NONE, 0, 3, NONE}, {18, NONE, 0, 0, 1, 0, NONE, NONE},
            {21, NONE, 2, 0, NONE, 0, NONE, NONE}});
        // A chain: the D that nobody reads comes first, though it is not the least.
        x = CHECK.good("fun(a, b) s: go t t: p = phi s 4 q = phi s a r = phi s b put p q ret r");
        x.colour(0);
        rows("16: chain", x, new int[][] {{22, 2, 1, 0, NONE, 0, NONE, NONE}, {22, 1, 0, 0, NONE, 0, NONE, NONE},
            {24, 0, NONE, 4, NONE, 0, NONE, NONE}, {19, NONE, NONE, 0, NONE, 0, 4, NONE},
            {18, NONE, 0, 0, 1, 0, NONE, NONE}, {21, NONE, 2, 0, NONE, 0, NONE, NONE}});
        // An EDGE without MOVES is one all the same.
        x = CHECK.good("fun(a) s: if a t j t: go j j: p = phi s a, t a ret p");
        x.colour(0);
        rows("16: bare EDGE", x, new int[][] {{20, NONE, 0, 0, NONE, 0, 1, 3}, {19, NONE, NONE, 0, NONE, 0, 2, NONE},
            {21, NONE, 0, 0, NONE, 0, NONE, NONE}, {19, NONE, NONE, 0, NONE, 0, 2, NONE}});
        x = CHECK.good(THREE);
        x.fit(2);
        x.colour(0);
        rows("16: SAVE, LOAD", x, new int[][] {{15, 0, NONE, 0, NONE, 0, NONE, NONE},
            {15, 1, NONE, 0, NONE, 0, NONE, NONE}, {25, NONE, 1, 1, NONE, 0, NONE, NONE},
            {15, 1, NONE, 0, NONE, 0, NONE, NONE}, {25, NONE, 1, 0, NONE, 0, NONE, NONE},
            {26, 1, NONE, 1, NONE, 0, NONE, NONE}, {3, 0, 0, 0, 1, 0, NONE, NONE},
            {26, 1, NONE, 0, NONE, 0, NONE, NONE}, {3, 0, 0, 0, 1, 0, NONE, NONE},
            {21, NONE, 0, 0, NONE, 0, NONE, NONE}});
    }

    private static void promise17() {
        PaletteHouse x = CHECK.good("fun(a, b) s: c = in out a out b out c ret 0");
        for (int n = 1; n <= 50; n++) {
            due("17: input", x.input(n == 3 ? MIN : n), n);
        }
        due("17: full", x.input(7), NONE);
        due("17: still", x.input(MAX), NONE);
        x.run(false, 10);
        due("17: first", x.output(false, 0), 1);
        due("17: second", x.output(false, 1), 2);
        due("17: third", x.output(false, 2), MIN);
        due("17: none came", x.clear(), 50);
    }

    private static void promise18() {
        PaletteHouse x = CHECK.good("fun(a) s: ret a");
        due("18: empty", x.clear(), 0);
        x.input(4);
        x.input(5);
        due("18: two", x.clear(), 2);
        due("18: none", x.clear(), 0);
        x.run(false, 5);
        due("18: nothing to take", x.told(false, 2), 0);
        due("18: a new first one", x.input(9), 1);
        x.run(false, 5);
        due("18: it is taken", x.told(false, 2), 9);
    }

    private static void promise19() {
        PaletteHouse x = CHECK.good(GCD);
        x.input(48);
        x.input(36);
        due("19: fuel", x.run(false, 0), NONE);
        due("19: fuel", x.run(false, -1), NONE);
        due("19: fuel", x.run(false, 5001), NONE);
        due("19: fuel", x.run(false, MIN), NONE);
        due("19: fuel", x.run(false, MAX), NONE);
        due("19: nothing happened", x.told(false, 0), NONE);
        due("19: no CODE", x.run(true, 10), NONE);
        x.colour(0);
        due("19: no CODE", x.run(true, 10), NONE);
        x.lower();
        // go; three times eq, if, of which two go on with rem, go; out, ret.
        due("19: one short", x.run(false, 12), 0);
        due("19: one short", x.run(true, 12), 0);
        due("19: enough", x.run(false, 13), 1);
        due("19: enough", x.run(true, 13), 1);
        due("19: the most", x.run(false, 5000), 1);
        x.clear();
        due("19: without INPUT", x.run(true, 5000), 1);
        x = CHECK.good("fun(a) s: b = div 1 a ret b");
        due("19: TRAP", x.run(false, 5), 2);
        x = CHECK.good("fun(a) s: out 1 b = rem 1 a ret b");
        due("19: FUEL ahead of TRAP", x.run(false, 1), 0);
        due("19: TRAP", x.run(false, 2), 2);
        x = CHECK.good("fun() s: go l l: go l");
        due("19: no end", x.run(false, 5000), 0);
        x.colour(0);
        x.lower();
        due("19: no end", x.run(true, 5000), 0);
        ops();
    }

    /** What each OP makes of two numbers, in the function and in its code. */
    private static void ops() {
        op("copy", 5, 0, 5);
        op("neg", MIN, 0, MIN);
        op("neg", 5, 0, -5);
        op("not", 0, 0, -1);
        op("not", 5, 0, -6);
        op("add", MAX, 1, MIN);
        op("sub", MIN, 1, MAX);
        op("mul", 65536, 65537, 65536);
        op("div", -7, 2, -3);
        op("div", 7, -2, -3);
        op("div", MIN, -1, MIN);
        op("rem", -7, 2, -1);
        op("rem", 7, -2, 1);
        op("rem", MIN, -1, 0);
        op("and", 12, 10, 8);
        op("or", 12, 10, 14);
        op("xor", 12, 10, 6);
        op("shl", 1, 31, MIN);
        op("shl", 1, 32, 1);
        op("shl", 3, -1, MIN);
        op("shr", -1, 28, 15);
        op("shr", MIN, 31, 1);
        op("shr", -1, 64, -1);
        op("lt", -1, 0, 1);
        op("lt", 0, 0, 0);
        op("lt", MAX, MIN, 0);
        op("eq", 7, 7, 1);
        op("eq", 7, 8, 0);
    }

    private static void op(String op, int a, int b, int want) {
        boolean one = op.equals("copy") || op.equals("neg") || op.equals("not");
        PaletteHouse x = CHECK.good("fun(a, b) s: c = " + op + " a" + (one ? "" : " b") + " ret c");
        x.input(a);
        x.input(b);
        x.colour(0);
        x.lower();
        x.run(false, 5);
        x.run(true, 5);
        due("19: " + op + " " + a + " " + b, x.told(false, 2), want);
        due("19: " + op + " " + a + " " + b + " in CODE", x.told(true, 2), want);
    }

    private static void promise20() {
        PaletteHouse x = CHECK.good(GCD);
        x.input(48);
        x.input(36);
        x.input(99);
        x.colour(0);
        x.lower();
        x.run(false, 20);
        int[] want = {1, 13, 12, 1, 2};
        for (int what = 0; what < 5; what++) {
            due("20: told(false," + what + ")", x.told(false, what), want[what]);
            due("20: of the CODE none yet", x.told(true, what), NONE);
        }
        x.run(true, 20);
        for (int what = 0; what < 5; what++) {
            due("20: told(true," + what + ")", x.told(true, what), want[what]);
        }
        due("20: what", x.told(true, 5), NONE);
        due("20: what", x.told(false, -1), NONE);
        due("20: what", x.told(false, MAX), NONE);
        x.run(false, 4);
        int[] shorter = {0, 4, 0, 0, 2};
        for (int what = 0; what < 5; what++) {
            due("20: FUEL, told(false," + what + ")", x.told(false, what), shorter[what]);
        }
        x.run(false, 0);
        due("20: a refused run changes nothing", x.told(false, 1), 4);
        x.colour(1);
        due("20: since read(), though the CODE is gone", x.told(true, 2), 12);
        x = CHECK.good("fun() s: go l l: i = phi s 0, l j out i j = add i 1 c = lt j 150 if c l e e: ret j");
        x.run(false, 5000);
        due("20: all are counted", x.told(false, 3), 150);
        due("20: nothing was taken", x.told(false, 4), 0);
        x = CHECK.good("fun(a) s: b = in c = in d = div 1 c ret d");
        x.input(5);
        x.input(6);
        x.run(false, 50);
        int[] trapped = {2, 2, 0, 0, 2};
        for (int what = 0; what < 5; what++) {
            due("20: TRAP, told(false," + what + ")", x.told(false, what), trapped[what]);
        }
        x = CHECK.good(THREE);
        x.fit(2);
        x.run(false, 6);
        due("20: SAVE and LOAD are no STEPS", x.told(false, 0), 1);
        due("20: STEPS", x.told(false, 1), 6);
    }

    private static void promise21() {
        PaletteHouse x = CHECK.good("fun() s: go l l: i = phi s 0, l j out i j = add i 1 c = lt j 150 if c l e e: ret j");
        x.colour(0);
        x.lower();
        x.run(true, 5000);
        due("21: first", x.output(true, 0), 0);
        due("21: kept", x.output(true, 99), 99);
        due("21: not kept", x.output(true, 100), 0);
        due("21: not there", x.output(true, 150), 0);
        due("21: below", x.output(true, -1), 0);
        due("21: far", x.output(true, MAX), 0);
        due("21: far below", x.output(true, MIN), 0);
        due("21: no such RUN", x.output(false, 5), 0);
        x.run(true, 30);
        due("21: only the latest", x.output(true, 50), 0);
        x.run(false, 9);
        due("21: of the function", x.output(false, 1), 1);
        due("21: of the function, behind", x.output(false, 2), 0);
        Check.feed(x, TINY);
        x.read();
        due("21: none since read()", x.output(true, 3), 0);
    }

    private static void promise22() {
        PaletteHouse x = CHECK.good("fun(a) s: put 3 7 put a 9 put -1 a b = get 67 put 0 b ret b");
        x.input(70);
        x.colour(0);
        x.lower();
        x.run(false, 50);
        x.run(true, 50);
        for (int n = 0; n < 2; n++) {
            due("22: put", x.memory(n == 1, 3), 7);
            due("22: by six bits", x.memory(n == 1, 6), 9);
            due("22: by six bits", x.memory(n == 1, 63), 70);
            due("22: get", x.memory(n == 1, 0), 7);
            due("22: untouched", x.memory(n == 1, 5), 0);
            due("22: none such", x.memory(n == 1, 64), 0);
            due("22: none such", x.memory(n == 1, 67), 0);
            due("22: none such", x.memory(n == 1, -1), 0);
            due("22: none such", x.memory(n == 1, MIN), 0);
            due("22: none such", x.memory(n == 1, MAX), 0);
        }
        x.run(false, 1);
        due("22: a new RUN begins with 0s", x.memory(false, 6), 0);
        due("22: and does its own", x.memory(false, 3), 7);
        due("22: the CODE's stays", x.memory(true, 6), 9);
        Check.feed(x, TINY);
        x.read();
        due("22: none since read()", x.memory(false, 3), 0);
        due("22: none since read()", x.memory(true, 3), 0);
    }

    private static void promise23() {
        PaletteHouse x = CHECK.good(GCD);
        int[] want = {4, 6, 3, 2, 3, 7, 0, 0, 0, 0, 0, 5, 0};
        for (int what = 0; what < want.length; what++) {
            due("23: count(" + what + ")", x.count(what), want[what]);
        }
        due("23: what", x.count(13), NONE);
        due("23: what", x.count(-1), NONE);
        due("23: what", x.count(MIN), NONE);
        due("23: what", x.count(MAX), NONE);
        x = CHECK.good(FLIP);
        x.colour(0);
        x.lower();
        due("23: ROWS", x.count(7), 12);
        due("23: MOVE", x.count(8), 1);
        due("23: SWAP", x.count(9), 1);
        due("23: SET", x.count(10), 2);
        x.feed(0, 0, 0, 0, 0);
        due("23: bytes", x.count(12), 20);
        x = CHECK.good(THREE);
        x.fit(2);
        due("23: SLOTS", x.count(6), 2);
        due("23: POINTS", x.count(5), 10);
        due("23: PHIS", x.count(3), 0);
    }
}
