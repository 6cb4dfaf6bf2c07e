/** Terms, II to VI: each sentence that names a boundary has a test of its own, on both sides of it. */
public final class TermsEdgesTest {
    private static final int MIN = Integer.MIN_VALUE;
    private static final int MAX = Integer.MAX_VALUE;
    private static final int NONE = -1;
    private static final int SAVE = 25;
    private static final int LOAD = 26;

    private static final Check CHECK = new Check();

    private TermsEdgesTest() {
    }

    public static void main(String[] args) {
        idom();
        idomOfAChain();
        theOrder();
        liveRightBehindTheDefinition();
        liveUpToAnArmsUse();
        liveFromOneBlockToAnother();
        liveWithoutComingByTheDefinition();
        theCliqueOfTheFirstPoint();
        meetAtOnePoint();
        theLeastFreeColour();
        wantedMostOftenOfSeveralTheLeast();
        wantedOnceForEachArm();
        wantedButNotFree();
        coloursAreGivenAnew();
        theGreatestNumberOfSeveral();
        asManySlotsAsValues();
        theFewestUses();
        saveBehindTheBegin();
        loadForTheEndAndTheArms();
        loadsBlockByBlock();
        noneToChoose();
        noResultOfLoadAndNoneWithASlot();
        moreThan500Values();
        nearTo1000Ins();
        movesWithLikeRegistersAreNone();
        movesOfWhichNoneIsFree();
        movesThatAreFree();
        setsByTheirRegisters();
        entryExitEdge();
        edgesInTheirOrder();
        zeroWithoutInput();
        intsWrap();
        lowestFiveBits();
        lowestSixBits();
        ifNotZero();
        runsBeginAnew();
        fuel();
        trap();
        stepsOfCode();
        CHECK.end("TermsEdgesTest");
    }

    private static void due(String call, int got, int want) {
        CHECK.due(call, got, want);
    }

    private static void due(String call, boolean got, boolean want) {
        CHECK.due(call, got, want);
    }

    private static PaletteHouse good(String text) {
        return CHECK.good(text);
    }

    private static PaletteHouse coloured(String text, int how) {
        PaletteHouse x = CHECK.good(text);
        x.colour(how);
        return x;
    }

    private static void idoms(String text, int... want) {
        PaletteHouse x = good(text);
        for (int b = 0; b < want.length; b++) {
            due("IDOM of " + b + " in " + text, x.block(b, 0), want[b]);
        }
        due("BLOCKS of " + text, x.count(0), want.length);
    }

    /** "IDOM: of those that DOMINATE a BLOCK, but itself, the one that all of them DOMINATE"; NONE of 0. */
    private static void idom() {
        idoms("fun()s:ret 0", NONE);
        idoms("fun()s:go t t:ret 0", NONE, 0);
        idoms("fun(v)s:if v t u t:go w u:go w w:ret 0", NONE, 0, 0, 0);
        idoms("fun(v)s:if v t u t:ret 0 u:if v t w w:ret 0", NONE, 0, 0, 2);
        // A loop's way back makes no difference; nor does one to itself.
        idoms("fun(v)s:go h h:if v b e b:go h e:ret 0", NONE, 0, 1, 1);
        idoms("fun(v)s:go h h:if v h e e:ret 0", NONE, 0, 1);
        // A loop with two ways in: neither of its BLOCKS DOMINATES the other.
        idoms("fun(v)s:if v x y x:if v y e y:if v x e e:ret 0", NONE, 0, 0, 0);
        // The one that DOMINATES may stand behind.
        idoms("fun()s:go u t:ret 0 u:go t", NONE, 2, 0);
        idoms("fun()s:go u t:go v u:go t v:ret 0", NONE, 2, 0, 1);
        idoms("fun(a)s:go x t:ret 0 u:if a t v v:go w w:go t x:go u", NONE, 2, 5, 2, 3, 0);
    }

    private static void idomOfAChain() {
        PaletteHouse x = good("fun()b0:" + Check.many("go b# b#:", 30).substring("go b0 b0:".length()) + "ret 0");
        for (int b = 0; b < 30; b++) {
            due("IDOM in the chain", x.block(b, 0), b - 1);
            due("ORDER in the chain", x.block(b, 1), b);
            due("PREDECESSORS in the chain", x.block(b, 4), b == 0 ? 0 : 1);
        }
        due("behind the chain", x.block(30, 0), NONE);
    }

    private static void orders(String text, int... want) {
        PaletteHouse x = good(text);
        for (int b = 0; b < want.length; b++) {
            due("ORDER of " + b + " in " + text, x.block(b, 1), want[b]);
        }
    }

    /** "THE ORDER: 0, behind each BLOCK its CHILDREN, each with all below it"; "CHILDREN .. by numbers". */
    private static void theOrder() {
        orders("fun()s:ret 0", 0);
        orders("fun(v)s:if v u t t:ret 0 u:ret 0", 0, 1, 2);
        orders("fun(v)s:if v d a a:go z d:ret 1 z:ret 2", 0, 1, 3, 2);
        orders("fun()s:go u t:ret 0 u:go t", 0, 2, 1);
        orders("fun(v)s:if v d a a:if v y z d:if v w x w:ret 0 x:ret 0 y:ret 0 z:ret 0", 0, 1, 4, 5, 6, 2, 3);
    }

    /** "and always at the POINT right behind its definition". */
    private static void liveRightBehindTheDefinition() {
        PaletteHouse x = good("fun(a)s:b=in out 1 c=in go t t:p=phi s 1 q=phi s 2 out 1 ret 0");
        int[][] homes = {{0, 0}, {0, 1}, {0, 3}, {1, 0}, {1, 0}};
        for (int v = 0; v < homes.length; v++) {
            due("unused: POINTS of " + v, x.value(v, 5), 1);
            due("unused: USES of " + v, x.value(v, 2), 0);
            for (int b = 0; b < 2; b++) {
                for (int i = 0; i <= x.block(b, 2); i++) {
                    due("unused: live(" + b + "," + i + "," + v + ")", x.live(b, i, v),
                        b == homes[v][0] && i == homes[v][1]);
                }
            }
        }
        due("unused: both PHIS", x.pressure(1, 0), 2);
        due("unused: behind", x.pressure(1, 1), 0);
        due("unused: MAXLIVE", x.count(4), 2);
        x = good("fun()s:a=in ret a");
        due("used: ahead of its definition", x.live(0, 0, 0), false);
        due("used: behind it", x.live(0, 1, 0), true);
    }

    /** "an ARM's use is at the end of the BLOCK that the ARM names". */
    private static void liveUpToAnArmsUse() {
        PaletteHouse x = good("fun(a)s:if a t u t:out 1 go v u:go v v:p=phi t a,u 1 ret p");
        due("ARM: in t", x.live(1, 0, 0), true);
        due("ARM: at the end of t", x.live(1, 1, 0), true);
        due("ARM: not in u", x.live(2, 0, 0), false);
        due("ARM: not behind the begin of v", x.live(3, 0, 0), false);
        due("ARM: the result is", x.live(3, 0, 1), true);
        due("ARM: the result is not ahead", x.live(1, 1, 1), false);
        due("ARM: POINTS", x.value(0, 5), 3);
    }

    /** "if from there a way leads to a use of it": an INS's first or second VAL, or an END, in another BLOCK. */
    private static void liveFromOneBlockToAnother() {
        PaletteHouse x = good("fun(a,b,c,d)s:out 6 go t t:out 1 e=add 1 b out e put a 2 if c u v u:ret d v:ret 0");
        int[][] last = {{1, 3}, {1, 1}, {1, 4}, {2, 0}};
        for (int v = 0; v < 4; v++) {
            for (int b = 0; b < 4; b++) {
                for (int i = 0; i <= x.block(b, 2); i++) {
                    due("far: live(" + b + "," + i + "," + v + ")", x.live(b, i, v),
                        b < last[v][0] || b == last[v][0] && i <= last[v][1]);
                }
            }
        }
    }

    /** "without coming by its definition". */
    private static void liveWithoutComingByTheDefinition() {
        PaletteHouse x = good("fun(a)s:go h h:i=in out i if i h e e:ret a");
        due("loop: ahead of its definition", x.live(1, 0, 1), false);
        due("loop: behind it", x.live(1, 1, 1), true);
        due("loop: up to the END", x.live(1, 2, 1), true);
        due("loop: not behind the loop", x.live(2, 0, 1), false);
        due("loop: not ahead of the loop", x.live(0, 0, 1), false);
        due("loop: what goes through lives all the way", x.value(0, 5), 5);
        x = good("fun()s:go h h:p=phi s 1,h p go h");
        due("PHI: at its begin", x.live(1, 0, 0), true);
        due("PHI: not at the end of s", x.live(0, 0, 0), false);
    }

    private static void clique(String text, int... want) {
        PaletteHouse x = good(text);
        for (int i = 0; i < want.length; i++) {
            due("CLIQUE of " + text, x.clique(i), want[i]);
        }
        due("CLIQUE of " + text + ", behind", x.clique(want.length), NONE);
        due("MAXLIVE of " + text, x.count(4), want.length);
    }

    /** "CLIQUE: those LIVE at the first POINT (by b, then i) that has it". */
    private static void theCliqueOfTheFirstPoint() {
        clique("fun()s:ret 0");
        clique("fun()s:a=in out a b=in out b ret 0", 0);
        clique("fun(a,b)s:out a c=in put b c ret 0", 0, 1);
        // By the BLOCK's number, though the other one comes first in THE ORDER.
        clique("fun()s:go u t:a=in b=in put a b ret 0 u:c=in d=in put c d go t", 0, 1);
        // A greater one behind goes ahead of both.
        clique("fun()s:a=in b=in put a b go t t:c=in d=in e=in put c d out e ret 0", 2, 3, 4);
    }

    /** "Two VALUES MEET, if both are LIVE at one POINT". */
    private static void meetAtOnePoint() {
        PaletteHouse x = good("fun(a,b)s:c=in d=in ret c");
        due("MEET: two that nobody uses", x.meet(0, 1), true);
        due("MEET: c comes when a is gone", x.meet(0, 2), false);
        due("MEET: d, unused, while c lives", x.meet(2, 3), true);
        due("MEET: pairs", x.count(11), 2);
        x = good("fun(a)s:b=copy a ret b");
        due("MEET: one takes over from the other", x.meet(0, 1), false);
        due("MEET: no pairs", x.count(11), 0);
        x = good("fun(a)s:b=copy a ret a");
        due("MEET: one POINT is enough", x.meet(0, 1), true);
    }

    private static void colours(String name, PaletteHouse x, int... want) {
        for (int v = 0; v < want.length; v++) {
            due(name + ": COLOUR of " + v, x.value(v, 3), want[v]);
        }
    }

    /** "how 0: the least FREE one". */
    private static void theLeastFreeColour() {
        PaletteHouse x = good("fun(a,b,c)s:out a out c d=in e=in put d e ret b");
        due("least FREE", x.colour(0), 3);
        colours("least FREE", x, 0, 1, 2, 0, 2);
        x = good("fun()s:a=in ret a");
        due("one", x.colour(0), 1);
        colours("one", x, 0);
    }

    /** "The FREE one that is wanted most often, of several the least." */
    private static void wantedMostOftenOfSeveralTheLeast() {
        String twoArms = "fun(c,a,b)s:out c if a t u t:go v u:go v v:p=phi t b,u a ret p";
        colours("how 0", coloured(twoArms, 0), 0, 1, 2, 0);
        colours("each wanted once", coloured(twoArms, 1), 0, 1, 2, 1);
        String threeArms = "fun(c,a,b)s:out c if a t u t:go v u:if a v w w:go v v:p=phi t b,u a,w b ret p";
        colours("2 wanted twice", coloured(threeArms, 1), 0, 1, 2, 2);
        String nobody = "fun(c,a)s:out c out a b=in ret b";
        colours("none wanted", coloured(nobody, 1), 0, 1, 0);
        // Numbers want nothing.
        String number = "fun(c,a)s:out c if a t u t:go v u:go v v:p=phi t 5,u 6 ret p";
        colours("numbers", coloured(number, 1), 0, 1, 0);
    }

    /** "the result of each PHI, once for each ARM of it that is the one at hand". */
    private static void wantedOnceForEachArm() {
        String text = "fun()s:go h h:q=phi s 2,l v,m 0 p=phi s 1,l v,m v put p q if p b e b:v=in if v l m l:go h m:go h "
            + "e:ret 0";
        colours("how 0", coloured(text, 0), 0, 1, 0);
        colours("twice against once", coloured(text, 1), 0, 1, 1);
        colours("once against once", coloured(text.replace("1,l v,m v", "1,l v,m 3"), 1), 0, 1, 0);
    }

    private static void wantedButNotFree() {
        colours("a lives on", coloured("fun(a)s:b=copy a put a b ret 0", 1), 0, 1);
        colours("a is gone", coloured("fun(x,a)s:out x b=copy a ret b", 1), 0, 1, 1);
        colours("a lives on", coloured("fun(x,a)s:out x b=copy a put a b ret 0", 1), 0, 1, 0);
        // A copy's result wants nothing for another VALUE, nor what is copied for another result.
        colours("another copy", coloured("fun(x,a)s:out x b=copy a out b c=in ret c", 1), 0, 1, 1, 0);
        colours("another copy", coloured("fun(x,a)s:out x b=copy a out b c=copy 5 ret c", 1), 0, 1, 1, 0);
    }

    /** A COLOUR of an earlier colour() wants nothing. */
    private static void coloursAreGivenAnew() {
        PaletteHouse x = coloured("fun()s:v=in w=copy v put v w ret 0", 0);
        colours("first", x, 0, 1);
        due("again", x.colour(1), 2);
        colours("anew", x, 0, 1);
    }

    /** "of several the greatest number". */
    private static void theGreatestNumberOfSeveral() {
        String text = "fun()s:" + Check.many("v#=in ", 150);
        StringBuilder s = new StringBuilder(text);
        for (int v = 0; v < 150; v += 2) {
            s.append("put v").append(v).append(" v").append(v + 1).append(" ");
        }
        PaletteHouse x = good(s.append("ret 0").toString());
        due("MAXLIVE", x.count(4), 150);
        due("150 are enough", x.fit(150), 0);
        due("nothing new", x.count(2), 225);
        due("149 are not", x.fit(149), 2);
        due("the greatest number", x.value(149, 4), 0);
        due("then the next", x.value(148, 4), 1);
        due("no other", x.value(147, 4), NONE);
        due("MAXLIVE then", x.count(4), 149);
    }

    /** All the 150 VALUES of a text get SLOTS, and their code runs. */
    private static void asManySlotsAsValues() {
        PaletteHouse x = good("fun()s:" + Check.many("a#=in b#=in out a# out b# ", 75) + "ret 0");
        due("150 VALUES", x.count(1), 150);
        due("all of them", x.fit(1), 150);
        due("SLOTS", x.count(6), 150);
        due("MAXLIVE", x.count(4), 1);
        due("LOADS", x.count(1), 300);
        for (int n = 0; n < 75; n++) {
            due("SLOT of b", x.value(2 * n + 1, 4), 2 * n);
            due("SLOT of a", x.value(2 * n, 4), 2 * n + 1);
        }
        for (int n = 1; n <= 50; n++) {
            x.input(n);
        }
        due("one COLOUR", x.colour(1), 1);
        due("ROWS", x.lower(), 601);
        due("run", x.run(true, 5000), 1);
        due("run", x.run(false, 5000), 1);
        for (int i = 0; i < 100; i++) {
            due("out of the CODE", x.output(true, i), i < 50 ? i + 1 : 0);
            due("out of the function", x.output(false, i), i < 50 ? i + 1 : 0);
        }
    }

    /** "the one with the fewest USES (each VAL)". */
    private static void theFewestUses() {
        // At (s, 3): a has 2, b 1, c 2 USES; an INS that has it twice counts twice.
        PaletteHouse x = good("fun()s:a=in b=in c=in d=add a a out b e=add c c ret e");
        due("fit", x.fit(2), 1);
        due("the fewest, though not the greatest number", x.value(1, 4), 0);
        due("not a", x.value(0, 4), NONE);
        due("not c", x.value(2, 4), NONE);
    }

    private static void ins(PaletteHouse x, int b, int i, int... want) {
        for (int what = 0; what < want.length; what++) {
            due("ins(" + b + "," + i + "," + what + ")", x.ins(b, i, what), want[what]);
        }
    }

    /** "right behind its definition (behind the begin: the first INS)"; "the next SLOT"; "the next number". */
    private static void saveBehindTheBegin() {
        PaletteHouse x = good("fun(a,b)s:c=in d=add c c put c d put c d out c put a b ret 0");
        due("fit", x.fit(2), 2);
        ins(x, 0, 1, SAVE, NONE, 0, 1, NONE, 0);
        ins(x, 0, 2, SAVE, NONE, 1, 0, NONE, 0);
        ins(x, 0, 3, 15, 2);
        ins(x, 0, 8, LOAD, 4, NONE, 0, NONE, 0);
        ins(x, 0, 9, LOAD, 5, NONE, 1, NONE, 0);
        ins(x, 0, 10, 18, NONE, 5, 0, 4, 0);
        due("INS", x.count(2), 10);
        due("a stands at the begin", x.value(0, 1), 0);
        due("c has gone back", x.value(2, 1), 3);
        x = good("fun()s:a=in b=in c=in d=add a a out b e=add c c ret e");
        x.fit(2);
        ins(x, 0, 2, 15, 1);
        ins(x, 0, 3, SAVE, NONE, 1, 0);
        ins(x, 0, 4, 15, 2);
    }

    /** "if the END, or an ARM that names this BLOCK, uses it, LOAD is the BLOCK's last INS .. in all of these". */
    private static void loadForTheEndAndTheArms() {
        String puts = "put a b put a b put a b put a b ";
        PaletteHouse x = good("fun(v)s:a=in b=in " + puts + "if v t u t:p=phi s v ret p u:q=phi s v ret q");
        due("END and two ARMS", x.fit(2), 1);
        due("INS of s", x.block(0, 2), 8);
        ins(x, 0, 8, LOAD, 5, NONE, 0);
        due("one LOAD for all", x.value(5, 2), 3);
        due("v is left to its SAVE", x.value(0, 2), 1);
        due("no LOAD elsewhere", x.count(1), 6);
        x = good("fun(v)s:a=in b=in " + puts + "go t t:p=phi s v ret p");
        due("an ARM alone", x.fit(2), 1);
        ins(x, 0, 8, LOAD, 4, NONE, 0);
        due("for the ARM", x.value(4, 2), 1);
        x = good("fun(v)s:a=in b=in " + puts + "put a b go t t:p=phi s a q=phi s 5 put p q ret v");
        due("an ARM with another", x.fit(2), 1);
        due("no LOAD in s", x.block(0, 2), 8);
        due("but in t", x.ins(1, 2, 0), LOAD);
        x = good("fun(v)s:a=in b=in " + puts + "ret v");
        due("an END alone", x.fit(2), 1);
        ins(x, 0, 8, LOAD, 3, NONE, 0);
        x = good("fun(v)s:a=in b=in " + puts + "out v ret 0");
        due("neither", x.fit(2), 1);
        ins(x, 0, 8, LOAD, 3, NONE, 0);
        ins(x, 0, 9, 17, NONE, 3);
        due("no LOAD at the end", x.block(0, 2), 9);
    }

    /** "then, BLOCK by BLOCK": each keeps its own INS, and LOADS only where it is used. */
    private static void loadsBlockByBlock() {
        PaletteHouse x = good("fun(v)s:a=in b=in put a b put a b go t t:p=phi s a q=phi s b put p q put p q out 9 if p u w "
            + "u:out 8 c=add v 1 ret c w:out 7 out v ret q");
        due("fit", x.fit(2), 1);
        due("v's", x.value(0, 4), 0);
        ops(x, new int[][] {{SAVE, 15, 15, 18, 18}, {18, 18, 17}, {17, LOAD, 3}, {17, LOAD, 17}});
        due("the first LOAD", x.ins(2, 2, 1), 6);
        due("the second LOAD", x.ins(3, 2, 1), 7);
        due("POINT of c", x.value(5, 1), 3);
        x.input(4);
        x.input(5);
        x.input(6);
        due("COLOURS", x.colour(0), 2);
        x.lower();
        told("fitted", x, 50, 1, 12, 5, 2, 3);
        x = good("fun()s:go t t:p=phi s 1 a=in b=in put a b put a b put a b go u u:c=in out c out p ret 0");
        due("fit", x.fit(2), 1);
        due("p's", x.value(0, 4), 0);
        ops(x, new int[][] {{}, {SAVE, 15, 15, 18, 18, 18}, {15, 17, LOAD, 17}});
    }

    private static void ops(PaletteHouse x, int[][] want) {
        for (int b = 0; b < want.length; b++) {
            due("INS of " + b, x.block(b, 2), want[b].length);
            for (int i = 1; i <= want[b].length; i++) {
                due("OP(" + b + "," + i + ")", x.ins(b, i, 0), want[b][i - 1]);
            }
        }
    }

    private static void lowered(PaletteHouse x, String text) {
        Check.feed(x, text);
        x.read();
        x.colour(1);
        x.lower();
        x.input(9);
        x.run(true, 100);
        x.run(false, 2);
    }

    /** "If there is none to choose ..: the function is as ahead of this fit()". */
    private static void noneToChoose() {
        String two = "fun(a,b)s:out a out b ret 0";
        CHECK.refused("two PARAMETERS in one", x -> lowered(x, two), x -> x.fit(1), -2);
        due("two in two", good(two).fit(2), 0);
        String phis = "fun()s:go t t:p=phi s 1 q=phi s 2 r=phi s 3 put p q ret r";
        CHECK.refused("three PHIS in two", x -> lowered(x, phis), x -> x.fit(2), -2);
        due("three in three", good(phis).fit(3), 0);
        // What got a SLOT on the way there has none again.
        PaletteHouse x = good(two);
        due("none", x.fit(1), -2);
        due("SLOTS", x.count(6), 0);
        due("SLOT", x.value(1, 4), NONE);
        due("INS", x.count(2), 2);
        due("USES", x.value(1, 2), 1);
    }

    /** "that have no SLOT and are no result of LOAD". */
    private static void noResultOfLoadAndNoneWithASlot() {
        String sum = "fun()s:a=in b=in c=add a b ret c";
        CHECK.refused("two LOADS at once", x -> lowered(x, sum), x -> x.fit(1), -2);
        CHECK.refused("fitted, then tighter", x -> {
            lowered(x, States.THREE);
            x.fit(2);
            x.colour(0);
            x.lower();
        }, x -> x.fit(1), -2);
        PaletteHouse x = good("fun()s:a=in b=in c=in d=in put a b put c d ret 0");
        due("four in three", x.fit(3), 2);
        due("SLOTS", x.count(6), 2);
        due("then in two", x.fit(2), 1);
        due("the next SLOT", x.count(6), 3);
        due("b's", x.value(1, 4), 2);
        due("the others' stay", x.value(3, 4), 0);
        due("the others' stay", x.value(2, 4), 1);
    }

    /** Four SLOTS with 402 LOADS, and so many VALUES ahead of them. */
    private static String crowd(int fillers) {
        return "fun()s:" + Check.many("f#=in ", fillers) + "a=in b=in x=in y=in put x y " + Check.many("put a b ", 200)
            + "ret 0";
    }

    /** "or more than 500 VALUES .. would be there". */
    private static void moreThan500Values() {
        PaletteHouse x = good(crowd(94));
        due("500 VALUES", x.fit(2), 4);
        due("500 VALUES", x.count(1), 500);
        due("the last one's BLOCK", x.value(499, 0), 0);
        due("behind it", x.value(500, 0), NONE);
        x = good(crowd(95));
        x.colour(0);
        due("ROWS ahead of it", x.lower(), 301);
        due("501 VALUES", x.fit(2), -2);
        due("VALUES as ahead of it", x.count(1), 99);
        due("INS as ahead of it", x.count(2), 300);
        due("SLOTS as ahead of it", x.count(6), 0);
        due("ROWS as ahead of it", x.count(7), 301);
        for (int v = 0; v < 99; v++) {
            due("SLOT as ahead of it", x.value(v, 4), NONE);
        }
        due("POINT as ahead of it", x.value(98, 1), 99);
        due("RUN as ahead of it", x.run(true, 5000), 1);
        due("with more room it goes", x.fit(3), 3);
    }

    /**
     * "or 1,000 INS would be there": a text has 399 INS at most, each SLOT a SAVE and a VALUE of the text, and each
     * LOAD is a VALUE of 500; so there are 899 at most, and the 1,000 are never told. This is near to that.
     */
    private static void nearTo1000Ins() {
        StringBuilder s = new StringBuilder("fun()s:" + Check.many("v#=in ", 60));
        for (int n = 0; n < 220; n++) {
            s.append("put v").append(n % 30 * 2).append(" v").append(n % 30 * 2 + 1).append(" ");
        }
        PaletteHouse x = good(s.append(Check.many("out 1 ", 110)).append("ret 0").toString());
        due("INS", x.count(2), 390);
        due("fit", x.fit(3), 59);
        due("VALUES", x.count(1), 492);
        due("INS", x.count(2), 881);
        due("again", x.fit(3), 0);
    }

    private static void rows(String name, PaletteHouse x, int[][] want) {
        due(name + ": ROWS", x.lower(), want.length);
        for (int r = 0; r < want.length; r++) {
            for (int what = 0; what < want[r].length; what++) {
                due(name + ": code(" + r + "," + what + ")", x.code(r, what), want[r][what]);
            }
        }
    }

    private static int[] move(int d, int s) {
        return new int[] {22, d, s, 0, NONE, 0, NONE, NONE};
    }

    private static int[] swap(int d, int s) {
        return new int[] {23, d, s, 0, NONE, 0, NONE, NONE};
    }

    private static int[] set(int d, int number) {
        return new int[] {24, d, NONE, number, NONE, 0, NONE, NONE};
    }

    private static int[] go(int to) {
        return new int[] {19, NONE, NONE, 0, NONE, 0, to, NONE};
    }

    private static int[] branch(int register, int first, int second) {
        return new int[] {20, NONE, register, 0, NONE, 0, first, second};
    }

    private static int[] ret(int register, int number) {
        return new int[] {21, NONE, register, number, NONE, 0, NONE, NONE};
    }

    private static int[] put(int first, int second) {
        return new int[] {18, NONE, first, 0, second, 0, NONE, NONE};
    }

    /** "Those with D = S are none." */
    private static void movesWithLikeRegistersAreNone() {
        PaletteHouse x = coloured("fun(a)s:go t t:p=phi s a ret p", 0);
        rows("D = S", x, new int[][] {go(1), ret(0, 0)});
        x = coloured("fun(a,b)s:go t t:p=phi s a q=phi s b put p q ret 0", 0);
        rows("both", x, new int[][] {go(1), put(0, 1), ret(NONE, 0)});
        x = coloured("fun(a,b)s:out a go t t:p=phi s b ret p", 0);
        rows("to register 0", x, new int[][] {{17, NONE, 0, 0}, move(0, 1), go(3), ret(0, 0)});
        // Only one of the two.
        x = coloured("fun(a,b)s:go t t:p=phi s a q=phi s a put p q ret 0", 0);
        rows("one", x, new int[][] {move(1, 0), go(2), put(0, 1), ret(NONE, 0)});
    }

    /** "If there is none such: the one with the least D: SWAP D S; .. (it is none, if that is its D)". */
    private static void movesOfWhichNoneIsFree() {
        PaletteHouse x = coloured("fun(a,b)s:go t t:p=phi s b q=phi s a put p q ret 0", 0);
        rows("two", x, new int[][] {swap(0, 1), go(2), put(0, 1), ret(NONE, 0)});
        x = coloured("fun(a,b,c,d)s:go t t:p=phi s b q=phi s a r=phi s d w=phi s c put p q put r w ret 0", 0);
        rows("twice two", x, new int[][] {swap(0, 1), swap(2, 3), go(3), put(0, 1), put(2, 3), ret(NONE, 0)});
        x = coloured("fun(a,b,c,d)s:go t t:p=phi s b q=phi s c r=phi s d w=phi s a put p q put r w ret 0", 0);
        rows("four", x, new int[][] {swap(0, 1), swap(1, 2), swap(2, 3), go(4), put(0, 1), put(2, 3), ret(NONE, 0)});
        x = coloured("fun(a,b,c)s:go t t:p=phi s c q=phi s a r=phi s b put p q ret r", 0);
        rows("three, the other way", x, new int[][] {swap(0, 2), swap(1, 2), go(3), put(0, 1), ret(2, 0)});
    }

    /** "the one with the least D that is the S of no other one left is made: MOVE D S". */
    private static void movesThatAreFree() {
        PaletteHouse x = coloured("fun(a,b)s:go t t:p=phi s b q=phi s a r=phi s a put p q ret r", 0);
        rows("ahead of a SWAP", x, new int[][] {move(2, 0), swap(0, 1), go(3), put(0, 1), ret(2, 0)});
        x = coloured("fun(a,b)s:go t t:p=phi s 7 q=phi s 8 r=phi s a w=phi s b put p q put r w ret 0", 0);
        rows("the least D", x, new int[][] {move(2, 0), move(3, 1), set(0, 7), set(1, 8), go(5), put(0, 1), put(2, 3),
            ret(NONE, 0)});
        x = coloured("fun(a,b)s:go t t:p=phi s 7 q=phi s a r=phi s b put p q ret r", 0);
        rows("one frees the next", x, new int[][] {move(2, 1), move(1, 0), set(0, 7), go(4), put(0, 1), ret(2, 0)});
    }

    /** "When none with an S is left, SET D of the numbers, by D." */
    private static void setsByTheirRegisters() {
        PaletteHouse x = coloured("fun(b,a)s:out b if a t u t:go v u:go v v:p=phi t a,u 5 q=phi t 3,u 4 put p q ret 0", 1);
        rows("by D", x, new int[][] {{17, NONE, 0, 0}, branch(1, 2, 4), set(0, 3), go(7), set(0, 4), set(1, 5), go(7),
            put(1, 0), ret(NONE, 0)});
        due("SETS", x.count(10), 3);
    }

    /** "if p ends by go, they are p's EXIT; else, if p is b's only PREDECESSOR, b's ENTRY; else an EDGE". */
    private static void entryExitEdge() {
        PaletteHouse x = coloured("fun(a)s:go t t:p=phi s 5 ret p", 0);
        rows("EXIT, though s is the only one", x, new int[][] {set(0, 5), go(2), ret(0, 0)});
        x = coloured("fun(a)s:if a t u t:p=phi s 5 ret p u:q=phi s 6 ret q", 0);
        rows("ENTRIES", x, new int[][] {branch(0, 1, 3), set(0, 5), ret(0, 0), set(0, 6), ret(0, 0)});
        x = coloured("fun(a)s:if a t u t:go u u:p=phi s 5,t 6 ret p", 0);
        rows("EXIT and EDGE", x, new int[][] {branch(0, 1, 4), set(0, 6), go(3), ret(0, 0), set(0, 5), go(3)});
        x = coloured("fun(a)s:if a t u t:go u u:ret a", 0);
        rows("no PHIS", x, new int[][] {branch(0, 1, 2), go(2), ret(0, 0)});
        x = coloured("fun(n)s:go h h:i=phi s n,h j j=sub i 1 if j h e e:ret 7", 0);
        rows("to itself", x, new int[][] {go(1), {4, 0, 0, 0, NONE, 1, NONE, NONE}, branch(0, 4, 3), ret(NONE, 7), go(1)});
    }

    /** "behind all EDGES, by the BLOCKS from which they come, then the first NAME of if ahead of the second". */
    private static void edgesInTheirOrder() {
        PaletteHouse x = coloured("fun(a)s:if a t u t:if a v w u:if a w v v:p=phi t 1,u 2 ret p w:q=phi u 3,t 4 ret q", 0);
        rows("four EDGES", x, new int[][] {branch(0, 1, 2), branch(0, 5, 7), branch(0, 9, 11), ret(0, 0), ret(0, 0),
            set(0, 1), go(3), set(0, 4), go(4), set(0, 3), go(4), set(0, 2), go(3)});
    }

    /** One that has its COLOURS and its CODE, so that both can run. */
    private static PaletteHouse ready(String text, int... inputs) {
        PaletteHouse x = coloured(text, 0);
        x.lower();
        for (int v : inputs) {
            x.input(v);
        }
        return x;
    }

    private static void told(String name, PaletteHouse x, int fuel, int... want) {
        for (int n = 0; n < 2; n++) {
            due(name + ": run(" + (n == 1) + "," + fuel + ")", x.run(n == 1, fuel), want[0]);
            for (int what = 0; what < want.length; what++) {
                due(name + ": told(" + (n == 1) + "," + what + ")", x.told(n == 1, what), want[what]);
            }
        }
    }

    private static void shown(String name, PaletteHouse x, int... want) {
        for (int n = 0; n < 2; n++) {
            x.run(n == 1, 5000);
            due(name + ": OUTPUT", x.told(n == 1, 3), want.length);
            for (int i = 0; i < want.length; i++) {
                due(name + ": output(" + (n == 1) + "," + i + ")", x.output(n == 1, i), want[i]);
            }
            due(name + ": behind", x.output(n == 1, want.length), 0);
        }
    }

    /** "PARAMETERS take the first of the INPUT, in their order (0 without); in the next one (0 without)". */
    private static void zeroWithoutInput() {
        String text = "fun(a,b)s:c=in d=in out a out b out c out d ret 0";
        shown("none", ready(text), 0, 0, 0, 0);
        shown("one", ready(text, 5), 5, 0, 0, 0);
        shown("two", ready(text, 5, 6), 5, 6, 0, 0);
        shown("three", ready(text, 5, 6, 7), 5, 6, 7, 0);
        shown("four", ready(text, 5, 6, 7, 8), 5, 6, 7, 8);
        shown("five", ready(text, 5, 6, 7, 8, 9), 5, 6, 7, 8);
        told("none", ready(text), 50, 1, 7, 0, 4, 0);
        told("one", ready(text, 5), 50, 1, 7, 0, 4, 1);
        told("three", ready(text, 5, 6, 7), 50, 1, 7, 0, 4, 3);
        told("four", ready(text, 5, 6, 7, 8), 50, 1, 7, 0, 4, 4);
        told("five", ready(text, 5, 6, 7, 8, 9), 50, 1, 7, 0, 4, 4);
    }

    private static void op(String op, int a, int b, int want) {
        PaletteHouse x = ready("fun(a,b)s:c=" + op + " ret c", a, b);
        told(op + " of " + a + " and " + b, x, 2, 1, 2, want, 0, 2);
    }

    /** "Ints wrap." */
    private static void intsWrap() {
        op("add a b", MAX, 1, MIN);
        op("add a b", MAX, 0, MAX);
        op("add a b", MIN, -1, MAX);
        op("add a b", MIN, MIN, 0);
        op("sub a b", MIN, 1, MAX);
        op("sub a b", 0, MIN, MIN);
        op("mul a b", MAX, MAX, 1);
        op("mul a b", MIN, -1, MIN);
        op("mul a b", 65536, 65536, 0);
        op("neg a", MIN, 0, MIN);
        op("neg a", MAX, 0, -MAX);
        op("not a", MIN, 0, MAX);
        op("not a", -1, 0, 0);
        op("div a b", MIN, -1, MIN);
        op("div a b", MIN, 1, MIN);
        op("div a b", -1, 2, 0);
        op("div a b", -7, 3, -2);
        op("rem a b", MIN, -1, 0);
        op("rem a b", -7, 3, -1);
        op("rem a b", 7, -3, 1);
        op("rem a b", MAX, MIN, MAX);
        op("lt a b", MIN, MAX, 1);
        op("lt a b", MAX, MIN, 0);
        op("lt a b", -1, -1, 0);
        op("eq a b", MIN, MIN, 1);
        op("eq a b", MIN, MAX, 0);
    }

    /** "shl, shr: by the lowest five bits, 0s come". */
    private static void lowestFiveBits() {
        int[] by = {0, 1, 30, 31, 32, 33, 63, 64, -1, -31, -32, MIN, MAX};
        int[] left = {5, 10, 1 << 30, MIN, 5, 10, MIN, 5, MIN, 10, 5, 5, MIN};
        for (int n = 0; n < by.length; n++) {
            op("shl a b", 5, by[n], left[n]);
        }
        int[] right = {MIN, 1 << 30, 2, 1, MIN, 1 << 30, 1, MIN, 1, 1 << 30, MIN, MIN, 1};
        for (int n = 0; n < by.length; n++) {
            op("shr a b", MIN, by[n], right[n]);
        }
        op("shr a b", -1, 1, MAX);
        op("shr a b", -1, 31, 1);
    }

    /** "get a: MEMORY at a's lowest six bits; put a v". */
    private static void lowestSixBits() {
        int[] places = {0, 1, 62, 63, 64, 65, 127, 128, -1, -63, -64, -65, MIN, MAX};
        int[] cells = {0, 1, 62, 63, 0, 1, 63, 0, 63, 1, 0, 63, 0, 63};
        for (int n = 0; n < places.length; n++) {
            PaletteHouse x = ready("fun(a,v)s:put a v b=get a c=get " + cells[n] + " out b ret c", places[n], 77);
            told("put " + places[n], x, 50, 1, 5, 77, 1, 2);
            shown("get " + places[n], x, 77);
            for (int a = 0; a < 64; a++) {
                due("memory(" + a + ") behind put " + places[n], x.memory(true, a), a == cells[n] ? 77 : 0);
                due("memory(" + a + ") behind put " + places[n], x.memory(false, a), a == cells[n] ? 77 : 0);
            }
        }
    }

    /** "if: the first NAME, if its VAL is not 0". */
    private static void ifNotZero() {
        for (int v : new int[] {0, 1, -1, 2, 256, 65536, MIN, MAX}) {
            told("if " + v, ready("fun(a)s:if a t u t:ret 11 u:ret 12", v), 9, 1, 2, v == 0 ? 12 : 11, 0, 1);
            told("if " + v, ready("fun()s:if " + v + " t u t:ret 11 u:ret 12"), 9, 1, 2, v == 0 ? 12 : 11, 0, 0);
        }
    }

    /** "RUNS begin with the INPUT at its begin, a MEMORY of 64 ints, all 0, no OUTPUT, no SLOT told (0)". */
    private static void runsBeginAnew() {
        PaletteHouse x = ready("fun(a)s:b=get 5 put 5 a c=in out b out c ret a", 8, 9);
        for (int n = 0; n < 3; n++) {
            shown("run " + n, x, 0, 9);
            due("memory", x.memory(true, 5), 8);
        }
        x.input(4);
        shown("more INPUT behind", x, 0, 9);
        x.clear();
        shown("no INPUT", x, 0, 0);
        due("memory", x.memory(true, 5), 0);
        due("what ret had", x.told(true, 2), 0);
    }

    /** "0 FUEL: ahead of a STEP more than it may do; 1 by ret". */
    private static void fuel() {
        PaletteHouse x = ready("fun(a)s:out 1 put 2 3 b=in go t t:p=phi s 4 if p u v u:out p ret p v:ret 0", 6, 7);
        int[] outputs = {0, 1, 1, 1, 1, 1, 2};
        for (int fuel = 1; fuel <= 6; fuel++) {
            told("fuel " + fuel, x, fuel, 0, fuel, 0, outputs[fuel], fuel >= 3 ? 2 : 1);
            due("put with fuel " + fuel, x.memory(true, 2), fuel >= 2 ? 3 : 0);
        }
        told("fuel 7", x, 7, 1, 7, 4, 2, 2);
        told("fuel 8", x, 8, 1, 7, 4, 2, 2);
        told("fuel 5000", x, 5000, 1, 7, 4, 2, 2);
        x = ready("fun()s:ret 3");
        told("ret alone", x, 1, 1, 1, 3, 0, 0);
        x = ready("fun()s:go t t:go t");
        told("no end", x, 1, 0, 1, 0, 0, 0);
        told("no end", x, 5000, 0, 5000, 0, 0, 0);
        // 4,999 STEPS ahead of the ret, or 5,000.
        String count = "fun()s:go h h:i=phi s 0,h j j=add i 1 c=lt j N if c h e e:P ret j";
        told("5,000 STEPS", ready(count.replace("N", "1666").replace("P", "")), 5000, 1, 5000, 1666, 0, 0);
        told("5,001 STEPS", ready(count.replace("N", "1666").replace("P", "out j")), 5000, 0, 5000, 0, 1, 0);
    }

    /** "2 TRAP: ahead of div or rem by 0". */
    private static void trap() {
        for (String op : new String[] {"div", "rem"}) {
            String text = "fun(a)s:out 1 b=" + op + " 7 a out b ret 9";
            told(op, ready(text, 0), 50, 2, 1, 0, 1, 1);
            told(op, ready(text), 50, 2, 1, 0, 1, 0);
            told(op, ready(text, 1), 50, 1, 4, 9, 2, 1);
            told(op, ready(text, -1), 50, 1, 4, 9, 2, 1);
            told(op + " with fuel for it", ready(text, 0), 2, 2, 1, 0, 1, 1);
            told(op + " without fuel for it", ready(text, 0), 1, 0, 1, 0, 1, 1);
            told(op + " 0 0", ready("fun()s:b=" + op + " 0 0 ret 9"), 1, 2, 0, 0, 0, 0);
            told(op + " MIN 0", ready("fun(a)s:b=" + op + " a 0 ret 9", MIN), 1, 2, 0, 0, 0, 1);
            told(op + " 0 by 5", ready("fun(a)s:b=" + op + " a 5 ret b", 0), 2, 1, 2, 0, 0, 1);
        }
    }

    /** "(of CODE: rows of these; no MOVE, SWAP, SET, no go of an EDGE)"; "an INS (but SAVE and LOAD)". */
    private static void stepsOfCode() {
        told("SWAP, SET, MOVE", ready(States.FLIP, 2), 50, 1, 13, 1, 2, 1);
        shown("SWAP, SET, MOVE", ready(States.FLIP, 2), 2, 1);
        told("one SWAP", ready(States.FLIP, 1), 50, 1, 8, 2, 1, 1);
        told("five SWAPS", ready(States.FLIP, 5), 50, 1, 28, 2, 5, 1);
        shown("three that go round", ready("fun(a,b,c)s:go t t:p=phi s b q=phi s c r=phi s a out p out q out r ret 0", 4, 5, 6),
            5, 6, 4);
        told("an EDGE", ready("fun(a)s:go v v:p=phi s 5,w 6 q=phi s 0,w r r=add q p if p w x w:if a v x x:ret r", 1), 9,
            0, 9, 0, 0, 1);
        told("a bare EDGE", ready("fun(n)s:go h h:i=phi s n,h j j=sub i 1 if j h e e:ret 7", 3), 8, 1, 8, 7, 0, 1);
        PaletteHouse x = good(States.THREE);
        x.fit(2);
        x.colour(0);
        x.lower();
        x.input(4);
        x.input(5);
        x.input(6);
        told("SAVE and LOAD", x, 6, 1, 6, 15, 0, 3);
        told("SAVE and LOAD", x, 5, 0, 5, 0, 0, 3);
    }
}
