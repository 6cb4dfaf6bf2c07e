import java.util.List;

/** Terms, I: each sentence that names a boundary has a test of its own, on both sides of it. */
public final class TextEdgesTest {
    private static final int SYNTAX = 1;
    private static final int ROOM = 2;
    private static final int TWICE = 3;
    private static final int NAME = 4;
    private static final int FORM = 5;
    private static final int STRICT = 6;
    private static final int NONE = -1;

    private static final String[] WORDS = ("fun phi in get copy neg not add sub mul div rem and or xor shl shr lt eq "
        + "out put go if ret").split(" ");

    private static final Check CHECK = new Check();

    private TextEdgesTest() {
    }

    public static void main(String[] args) {
        textOfAtMost4000Bytes();
        namesOfAtMost8();
        namesAreTheWholeOfThem();
        numbersOf1To10Digits();
        numbersOfAnInt();
        aMinusWithoutADigit();
        wordsAreNoNames();
        nearWordsAreNames();
        blanksBetween();
        nothingElseIsABlank();
        noBlanksBetween();
        everyOtherByteIsNoToken();
        theFirstByItsPlace();
        ofTheTextsEndItsLength();
        ofOnePlaceTheLeast();
        a1201stToken();
        a31stBlock();
        a9thParameter();
        a151stValue();
        a401stItem();
        limitsAreOfOneText();
        twice();
        valuesAndBlocksMayHaveTheSame();
        noSuchNameInAllTheText();
        formAtAnEnd();
        formAtAnArm();
        formAtPhi();
        formAtABlock();
        strict();
        numberedAsTheyStand();
        withAFaultNothingChanges();
        CHECK.end("TextEdgesTest");
    }

    private static void fault(int number, String marked) {
        CHECK.fault(number, marked);
    }

    private static void good(String text) {
        CHECK.fault(0, text);
    }

    private static void due(String call, int got, int want) {
        CHECK.due(call, got, want);
    }

    private static String many(String part, int n) {
        return Check.many(part, n);
    }

    private static String blanks(int n) {
        return many(" ", n);
    }

    /** "THE TEXT, of at most 4,000 bytes". */
    private static void textOfAtMost4000Bytes() {
        good("fun()s:" + blanks(4000 - 12) + "ret 0");
        good("fun()s:ret 0" + blanks(4000 - 12));
        fault(SYNTAX, "fun()s:" + blanks(4000 - 13) + "ret 0@?");
        fault(SYNTAX, "fun()s:" + blanks(4000 - 7) + "@");
        fault(SYNTAX, "fun()s:" + blanks(3999 - 7) + "@");
        fault(SYNTAX, blanks(4000) + "@");
        PaletteHouse x = new PaletteHouse();
        Check.feed(x, "fun()s:" + blanks(4000 - 12) + "ret 0");
        due("4,000 bytes", x.count(12), 4000);
        due("20 more", x.feed(0x3f3f3f3f, 0, 0, 0, 0), NONE);
        due("read of 4,000 bytes, though more were offered", x.read(), 0);
    }

    /** "a letter a .. z, then letters and digits, at most 8"; "so is a NAME of more than 8". */
    private static void namesOfAtMost8() {
        String[] most = {"abcdefgh", "a1234567", "z9z9z9z9", "zzzzzzzz", "a0000000"};
        for (String name : most) {
            everywhere(name);
            String more = name + "0";
            fault(SYNTAX, "fun(@" + more + ")s:ret 0");
            fault(SYNTAX, "fun(a,@" + more + ")s:ret 0");
            fault(SYNTAX, "fun()@" + more + ":ret 0");
            fault(SYNTAX, "fun()s:@" + more + "=in ret 0");
            fault(SYNTAX, "fun()s:ret @" + more);
            fault(SYNTAX, "fun()s:a=add 1 @" + more + " ret 0");
            fault(SYNTAX, "fun()s:go @" + more + " t:ret 0");
            fault(SYNTAX, "fun()s:if 1 t @" + more + " t:ret 0");
            fault(SYNTAX, "fun()s:go t t:p=phi @" + more + " 1 ret 0");
            fault(SYNTAX, "fun()s:go t t:p=phi s @" + more + " ret 0");
        }
        everywhere("a");
        everywhere("z");
        fault(SYNTAX, "fun()s:ret @" + many("a", 300));
        fault(SYNTAX, "fun()s:ret @returning");
    }

    /** The NAME as a PARAMETER's, a BLOCK's, in a VAL, an END and an ARM. */
    private static void everywhere(String name) {
        good("fun(" + name + ")" + name + ":out " + name + " go t2 t2:p2=phi " + name + " " + name + " ret p2");
        good("fun()s2:go " + name + " " + name + ":" + name + "=in ret " + name);
    }

    /** Two NAMES are alike only if all their bytes are. */
    private static void namesAreTheWholeOfThem() {
        String[][] pairs = {{"abcdefg1", "abcdefg2"}, {"bbcdefgh", "abcdefgh"}, {"a", "aa"}, {"a", "a0"}, {"a0", "a00"},
            {"ab", "ba"}, {"a1", "b"}, {"z9", "za"}, {"z", "z0"}};
        for (String[] pair : pairs) {
            PaletteHouse x = CHECK.good("fun(" + pair[0] + "," + pair[1] + ")s:out " + pair[0] + " ret " + pair[1]);
            x.input(5);
            x.input(6);
            x.run(false, 5);
            due("of " + pair[0], x.output(false, 0), 5);
            due("of " + pair[1], x.told(false, 2), 6);
        }
    }

    private static void number(String text, int want) {
        PaletteHouse x = CHECK.good("fun()s:a=copy " + text + " go t t:p=phi s " + text + " out p ret " + text);
        due("ins " + text, x.ins(0, 1, 3), want);
        due("no VALUE " + text, x.ins(0, 1, 2), NONE);
        x.run(false, 9);
        due("ARM " + text, x.output(false, 0), want);
        due("ret " + text, x.told(false, 2), want);
    }

    private static void noNumber(String text) {
        fault(SYNTAX, "fun()s:ret @" + text);
        fault(SYNTAX, "fun()s:a=add 1 @" + text + " ret 0");
        fault(SYNTAX, "fun()s:go t t:p=phi s @" + text + " ret p");
    }

    /** "1 to 10 digits"; "a longer one .. is no TOKEN". */
    private static void numbersOf1To10Digits() {
        number("0", 0);
        number("9", 9);
        number("-9", -9);
        number("-0", 0);
        number("0000000000", 0);
        number("0000000009", 9);
        number("-0000000009", -9);
        number("1234567890", 1234567890);
        number("-1234567890", -1234567890);
        noNumber("00000000000");
        noNumber("00000000009");
        noNumber("-00000000009");
        noNumber("01234567890");
        noNumber("-01234567890");
        noNumber(many("0", 200));
        noNumber(many("9", 40));
    }

    /** "-2147483648 .. 2147483647 (.. one beyond, is no TOKEN". */
    private static void numbersOfAnInt() {
        number("2147483647", 2147483647);
        number("2147483646", 2147483646);
        number("-2147483648", -2147483648);
        number("-2147483647", -2147483647);
        noNumber("2147483648");
        noNumber("-2147483649");
        noNumber("2147483650");
        noNumber("4294967295");
        noNumber("4294967296");
        noNumber("4294967297");
        noNumber("-4294967296");
        noNumber("9999999999");
        noNumber("-9999999999");
    }

    /** "and a - without a digit behind". */
    private static void aMinusWithoutADigit() {
        good("fun()s:ret -1");
        noNumber("-");
        noNumber("- 1");
        noNumber("--1");
        noNumber("-a");
        noNumber("-\n1");
        noNumber("-(");
        fault(SYNTAX, "fun()s:ret @-");
        fault(SYNTAX, "fun()s:ret 1@-");
        fault(SYNTAX, "fun()s:ret 1@-1");
        good("fun()s:a=add-1-2 ret a");
    }

    /** "No NAMES are: fun phi .. ret". */
    private static void wordsAreNoNames() {
        for (String word : WORDS) {
            fault(SYNTAX, "fun(@" + word + ")s:ret 0");
            fault(SYNTAX, "fun(a,@" + word + ")s:ret 0");
            fault(SYNTAX, "fun()@" + word + ":ret 0");
            fault(SYNTAX, "fun()s:ret @" + word);
            fault(SYNTAX, "fun()s:a=add @" + word + " 1 ret 0");
            fault(SYNTAX, "fun()s:go @" + word);
            fault(SYNTAX, "fun()s:if 1 @" + word + " t");
            fault(SYNTAX, "fun()s:if 1 t @" + word);
            fault(SYNTAX, "fun()s:go t t:p=phi @" + word + " 1 ret p");
            fault(SYNTAX, "fun()s:go t t:p=phi s @" + word + " ret p");
            boolean begins = List.of("out", "put", "go", "if", "ret").contains(word);
            fault(SYNTAX, begins ? "fun()s:" + word + "@=in ret 0" : "fun()s:@" + word + "=in ret 0");
        }
    }

    private static void nearWordsAreNames() {
        for (String word : WORDS) {
            everywhere(word + "0");
            everywhere(word + "x");
            everywhere("y" + word);
            everywhere(word.substring(0, word.length() - 1));
            fault(SYNTAX, "fun()s:ret @" + word.toUpperCase());
        }
        for (String word : "move swap set save load none end begin true".split(" ")) {
            everywhere(word);
        }
        // Of a word and what follows it the longest is taken.
        fault(SYNTAX, "fun()s:ret0@");
        fault(SYNTAX, "@funa()s:ret 0");
        fault(NAME, "fun()s:go @t1 t:ret 0");
    }

    /** "with blanks (9, 10, 13, 32) between or not". */
    private static void blanksBetween() {
        String[] tokens = "fun ( a , b ) s : c = add a -5 out c if c t u t : go u u : p = phi s 1 , t 2 ret p".split(" ");
        for (String blank : new String[] {"\t", "\n", "\r", " ", "\t\n\r ", "  ", "\r\n"}) {
            good(String.join(blank, tokens));
            good(blank + String.join(blank, tokens) + blank);
            fault(SYNTAX, String.join(blank, tokens) + blank + "@,");
            fault(SYNTAX, blank + "@)" + blank);
        }
    }

    private static void nothingElseIsABlank() {
        for (char c : new char[] {0, 1, 8, 11, 12, 14, 28, 31, 127, 133, 160, 255}) {
            fault(SYNTAX, "@" + c + "fun()s:ret 0");
            fault(SYNTAX, "fun()s:ret@" + c + "0");
            fault(SYNTAX, "fun()s:ret 0@" + c);
        }
    }

    private static void noBlanksBetween() {
        good("fun()a:ret 0");
        good("fun(a,b)s:c=add a-5d=add 5b out c put-1-2if c t u t:go u u:p=phi s 1,t 2q=phi s-3,t-4ret p");
        PaletteHouse x = CHECK.good("fun(a,a5)s:c=sub a5 a d=sub-5-6out 7out c ret d");
        due("a5 is one NAME", x.ins(0, 1, 2), 1);
        due("and a the next", x.ins(0, 1, 4), 0);
        due("-5 is one NUMBER", x.ins(0, 2, 3), -5);
        due("and -6 the next", x.ins(0, 2, 5), -6);
        x = CHECK.good("fun(a)s:c=sub 5a ret c");
        due("5 is a NUMBER", x.ins(0, 1, 3), 5);
        due("and a the NAME behind", x.ins(0, 1, 4), 0);
        // A blank within parts what it stands in.
        fault(SYNTAX, "@fu n()s:ret 0");
        fault(SYNTAX, "fun()s:ret 1 @2");
        fault(SYNTAX, "fun()s:re @t 1");
    }

    /** SIGNS are ( ) , : = alone. */
    private static void everyOtherByteIsNoToken() {
        for (int c = 0; c <= 255; c++) {
            boolean known = c == 9 || c == 10 || c == 13 || c == 32 || c >= 'a' && c <= 'z' || c >= '0' && c <= '9'
                || "(),:=-".indexOf(c) >= 0;
            if (!known) {
                PaletteHouse x = new PaletteHouse();
                Check.feed(x, "fun()s:ret 0 " + (char) c + " t:ret 0");
                due("read with byte " + c, x.read(), SYNTAX);
                due("place of byte " + c, x.place(), 13);
            }
        }
    }

    /** "FAULTS, the first by its place". */
    private static void theFirstByItsPlace() {
        String nine = "fun(a,b,c,d,e,f,g,h,";
        fault(SYNTAX, "fun(a,@,b,c,d,e,f,g,h,i,j)s:ret 0");
        fault(ROOM, nine + "@i,)s:ret 0");
        // 3, 4 and 5 by their places, whatever their numbers.
        fault(TWICE, "fun(a,@a)s:ret z");
        fault(NAME, "fun()s:out @z a=in a=in ret 0");
        fault(TWICE, "fun(a,@a)s:go s");
        fault(FORM, "fun()s:go @s t:ret 0 t:ret 0");
        fault(NAME, "fun()s:out @z go s");
        fault(FORM, "fun()s:go t t:p=phi @t 1 ret z");
        // Two of one kind.
        fault(NAME, "fun()s:put @y z ret x");
        fault(TWICE, "fun(a,@a,a)s:a=in ret 0");
        fault(STRICT, "fun()s:put @b a a=in b=in ret 0");
        // 1 and 2 are told ahead of the others, and these ahead of 6, wherever they stand.
        fault(SYNTAX, "fun(a,a)s:out z go@");
        fault(ROOM, "fun(a,a,c,d,e,f,g,h,@i)s:out z go s");
        fault(TWICE, "fun()s:out a a=in @a=in ret 0");
        fault(NAME, "fun()s:out a a=in ret @z");
        fault(FORM, "fun()s:out a a=in ret 0 @t:ret 0");
    }

    /** "(a byte; of the text's end its length)". */
    private static void ofTheTextsEndItsLength() {
        // At a ; the text could end.
        String[] tokens = ("fun ( a , b ) s : c = add a b d = get c put d 1 out d if c t u ; t : go u ; u : p = phi s 1 , "
            + "t 2 ret").split(" ");
        StringBuilder s = new StringBuilder();
        boolean whole = false;
        for (String token : tokens) {
            if (!whole && !token.equals(";")) {
                fault(SYNTAX, s + "@");
                fault(SYNTAX, s + " \n@");
            }
            whole = token.equals(";");
            s.append(whole ? "" : token + " ");
        }
        fault(SYNTAX, s + "@");
        good(s + "7");
        good(s + "7" + blanks(9));
    }

    /** "of one place the least". */
    private static void ofOnePlaceTheLeast() {
        fault(SYNTAX, prefix(1200) + "@phi");
        fault(SYNTAX, prefix(1200) + "@?");
        fault(SYNTAX, prefix(1200) + "@7");
        fault(SYNTAX, prefix(1199) + "ret @ret");
        fault(ROOM, prefix(1199) + "ret @7");
        fault(TWICE, "fun()s:ret 0 @s:ret 0");
        fault(TWICE, "fun()s:go t t:ret 0 @t:ret 0");
        fault(FORM, "fun()s:go t t:ret 0 @u:ret 0");
    }

    /** So many TOKENS, the last BLOCK being open; with fewer than 400 items. */
    private static String prefix(int tokens) {
        int left = tokens - 5;
        int outs = left % 3 == 0 ? 0 : left % 3 == 1 ? 2 : 1;
        return "fun()s:" + many("put 1 2 ", (left - 2 * outs) / 3) + many("out 1 ", outs);
    }

    /** "2 ROOM: a 1,201st TOKEN". */
    private static void a1201stToken() {
        good(prefix(1198) + "ret 0");
        good(prefix(1197) + "ret 0");
        good(prefix(1198) + "ret 0" + blanks(30));
        fault(ROOM, prefix(1199) + "ret @0");
        fault(ROOM, prefix(1199) + "ret @z");
        fault(ROOM, prefix(1200) + "@ret 0");
        fault(ROOM, prefix(1200) + "@out 1 ret 0");
        fault(ROOM, prefix(1200) + "@x=in ret 0");
        fault(ROOM, prefix(1199) + "x@=in ret 0");
        fault(ROOM, prefix(1198) + "x=@in ret 0");
        fault(ROOM, prefix(1197) + "x=add @1 1 ret 0");
        fault(ROOM, prefix(1196) + "x=add 1 @1 ret 0");
        fault(ROOM, prefix(1198) + "ret 0 @t:ret 0");
        fault(ROOM, prefix(1197) + "ret 0 t@:ret 0");
        fault(ROOM, prefix(1199) + "go @t t:ret 0");
        fault(ROOM, prefix(1197) + "if 1 t @u t:ret 0 u:ret 0");
        fault(ROOM, prefix(1194) + "go t t:p=@phi s 1 ret 0");
        fault(ROOM, prefix(1193) + "go t t:p=phi @s 1 ret 0");
        fault(ROOM, prefix(1192) + "go t t:p=phi s @1 ret 0");
        fault(ROOM, prefix(1191) + "go t t:p=phi s 1@,s 1 ret 0");
        fault(ROOM, prefix(1190) + "go t t:p=phi s 1,@s 1 ret 0");
        // What is behind it is not looked at.
        fault(ROOM, prefix(1200) + "@ret ?");
        fault(ROOM, prefix(1200) + "@ret");
        fault(SYNTAX, prefix(1200) + "@");
        fault(SYNTAX, prefix(1200) + "  @");
    }

    private static String chain(int blocks) {
        return "fun()b0:" + many("go b# b#:", blocks).substring("go b0 b0:".length());
    }

    /** "a 31st BLOCK .. at that NAME". */
    private static void a31stBlock() {
        good(chain(29) + "ret 0");
        good(chain(30) + "ret 0");
        due("BLOCKS", CHECK.good(chain(30) + "ret 0").count(0), 30);
        fault(ROOM, chain(30) + "ret 0 @c:ret 0");
        fault(ROOM, chain(30) + "go c @c:ret 0");
        fault(ROOM, chain(30) + "ret 0 @b0:ret 0");
        fault(ROOM, chain(30) + "ret 0 @c");
        fault(ROOM, chain(30) + "ret 0 @c=");
        fault(SYNTAX, chain(30) + "ret 0 @:");
        fault(SYNTAX, chain(30) + "ret @");
    }

    /** "9th PARAMETER (a NAME in the brackets) .. at that NAME". */
    private static void a9thParameter() {
        good("fun(a,b,c,d,e,f,g)s:ret g");
        good("fun(a,b,c,d,e,f,g,h)s:ret h");
        fault(ROOM, "fun(a,b,c,d,e,f,g,h,@i)s:ret h");
        fault(ROOM, "fun(a,b,c,d,e,f,g,h,@i,j)s:ret h");
        fault(ROOM, "fun(a,b,c,d,e,f,g,h,@a");
        fault(SYNTAX, "fun(a,b,c,d,e,f,g,h,@)s:ret h");
        fault(SYNTAX, "fun(a,b,c,d,e,f,g,h,@7)s:ret h");
        fault(SYNTAX, "fun(a,b,c,d,e,f,g,h @i)s:ret h");
        fault(SYNTAX, "fun(a,b,c,d,e,f,g,h,@");
    }

    /** "151st VALUE (PARAMETERS, NAMES with which a PHI or INS begins): at that NAME". */
    private static void a151stValue() {
        good("fun()s:" + many("v#=in ", 149) + "ret 0");
        good("fun()s:" + many("v#=in ", 150) + "ret 0");
        due("VALUES", CHECK.good("fun()s:" + many("v#=in ", 150) + "ret 0").count(1), 150);
        fault(ROOM, "fun()s:" + many("v#=in ", 150) + "@x=in ret 0");
        fault(ROOM, "fun()s:" + many("v#=in ", 150) + "@v0=in ret 0");
        fault(ROOM, "fun()s:" + many("v#=in ", 150) + "@x");
        fault(ROOM, "fun()s:" + many("v#=in ", 150) + "@x:");
        good("fun()s:" + many("v#=in ", 150) + "out v149 put v0 v1 ret v2");
        // PARAMETERS and PHIS count, too.
        String eight = "fun(a,b,c,d,e,f,g,h)s:";
        good(eight + many("v#=in ", 141) + "go t t:p=phi s 1 ret 0");
        fault(ROOM, eight + many("v#=in ", 142) + "go t t:@p=phi s 1 ret 0");
        fault(ROOM, eight + many("v#=in ", 141) + "go t t:p=phi s 1 @q=phi s 1 ret 0");
        fault(ROOM, eight + many("v#=in ", 141) + "go t t:p=phi s 1 @q=in ret 0");
        fault(SYNTAX, eight + many("v#=in ", 142) + "go t t:@phi");
        good("fun()s:go t t:" + many("p#=phi s 1 ", 150) + "ret p149");
        fault(ROOM, "fun()s:go t t:" + many("p#=phi s 1 ", 150) + "@q=phi s 1 ret 0");
    }

    /** "a 401st of all PHIS, INS, ENDS: at its first TOKEN". */
    private static void a401stItem() {
        String[] items = {"out 1 ", "x=in ", "put 1 2 "};
        for (String item : items) {
            good("fun()s:" + many("out 1 ", 398) + item + "ret 0");
            fault(ROOM, "fun()s:" + many("out 1 ", 399) + item + "@ret 0");
            fault(ROOM, "fun()s:" + many("out 1 ", 400) + "@" + item + "ret 0");
        }
        good("fun()s:" + many("out 1 ", 397) + "go t t:p=phi s 1 ret 0");
        good("fun()s:" + many("out 1 ", 398) + "go t t:ret 0");
        fault(ROOM, "fun()s:" + many("out 1 ", 398) + "go t t:p=phi s 1 @ret 0");
        fault(ROOM, "fun()s:" + many("out 1 ", 399) + "go t t:@p=phi s 1 ret 0");
        fault(ROOM, "fun()s:" + many("out 1 ", 399) + "go t t:@ret 0");
        fault(ROOM, "fun()s:" + many("out 1 ", 400) + "@go t t:ret 0");
        fault(ROOM, "fun()s:" + many("out 1 ", 400) + "@if 1 t u t:ret 0 u:ret 0");
        fault(ROOM, "fun()s:" + many("out 1 ", 400) + "@if");
        fault(SYNTAX, "fun()s:" + many("out 1 ", 400) + "@in");
        fault(SYNTAX, "fun()s:" + many("out 1 ", 400) + "@");
        due("items", CHECK.good("fun()s:" + many("out 1 ", 399) + "ret 0").count(2), 399);
    }

    /** What an earlier text had of all these does not count. */
    private static void limitsAreOfOneText() {
        String[] full = {prefix(1198) + "ret 0", chain(30) + "ret 0", "fun(a,b,c,d,e,f,g,h)s:ret h",
            "fun()s:" + many("v#=in ", 150) + "ret 0", "fun()s:go t t:" + many("p#=phi s 1 ", 150) + "ret p149",
            "fun()s:" + many("out 1 ", 399) + "ret 0"};
        for (String first : full) {
            for (String second : full) {
                PaletteHouse x = new PaletteHouse();
                Check.feed(x, first);
                due("the first", x.read(), 0);
                Check.feed(x, second);
                due("the second", x.read(), 0);
                due("no place", x.place(), NONE);
                PaletteHouse twin = Check.houseOf(second);
                for (int what = 0; what <= 6; what++) {
                    due("count(" + what + ") of the second", x.count(what), twin.count(what));
                }
            }
            PaletteHouse x = Check.houseOf(first + " ?");
            due("a FAULT", x.place(), first.length() + 1);
            Check.feed(x, first);
            due("then none", x.read(), 0);
        }
    }

    /** "3 TWICE: a VALUE's, a BLOCK's NAME that an earlier VALUE, BLOCK has". */
    private static void twice() {
        fault(TWICE, "fun(a,@a)s:ret 0");
        fault(TWICE, "fun(a,b,@a)s:ret 0");
        fault(TWICE, "fun(a)s:@a=in ret 0");
        fault(TWICE, "fun(a)s:go t t:@a=phi s 1 ret 0");
        fault(TWICE, "fun()s:go t t:a=phi s 1 @a=phi s 1 ret 0");
        fault(TWICE, "fun()s:go t t:a=phi s 1 @a=in ret 0");
        fault(TWICE, "fun()s:a=in @a=copy a ret 0");
        fault(TWICE, "fun()s:a=in go t t:@a=in ret 0");
        fault(TWICE, "fun()s:if 1 t u t:a=in ret 0 u:@a=in ret 0");
        fault(TWICE, "fun()s:go t t:go u u:ret 0 @t:ret 0");
        good("fun(a,b)s:a1=in b1=in go t t:ret 0");
    }

    /** "(VALUES and BLOCKS may have the same)". */
    private static void valuesAndBlocksMayHaveTheSame() {
        good("fun(s)s:ret s");
        good("fun(t)s:go t t:s=phi s t ret s");
        good("fun()a:a=in if a b c b:b=in go c c:c=phi a a,b b ret c");
        fault(NAME, "fun(t)s:go @t");
        fault(NAME, "fun()s:ret @s");
        fault(NAME, "fun(a)s:go t t:p=phi @a 1 ret p");
        fault(NAME, "fun()s:go t t:p=phi s @s ret p");
    }

    /** "4 NAME: no such BLOCK, VALUE in all the text". */
    private static void noSuchNameInAllTheText() {
        String[] uses = {"out @z ", "put @z 1 ", "put 1 @z ", "a=copy @z ", "a=neg @z ", "a=not @z ", "a=get @z ",
            "a=add @z 1 ", "a=eq 1 @z "};
        for (String use : uses) {
            fault(NAME, "fun()s:" + use + "ret 0");
            // Far behind there is such a one: then it is no NAME, but STRICT.
            fault(STRICT, "fun()s:" + use + "go t t:z=in ret 0");
            good("fun(z)s:" + use.replace("@", "") + "ret 0");
        }
        fault(NAME, "fun()s:ret @z");
        fault(NAME, "fun()s:if @z t u t:ret 0 u:ret 0");
        fault(NAME, "fun()s:go @z");
        fault(NAME, "fun()s:if 1 @z u u:ret 0");
        fault(NAME, "fun()s:if 1 u @z u:ret 0");
        fault(NAME, "fun()s:go t t:p=phi @z 1 ret 0");
        fault(NAME, "fun()s:go t t:p=phi s @z ret 0");
        good("fun()s:go z z:ret 0");
    }

    /** "5 FORM: at a NAME in an END: the first BLOCK's, or the second one of an if that is its first". */
    private static void formAtAnEnd() {
        fault(FORM, "fun()s:go @s");
        fault(FORM, "fun()s:if 1 @s t t:ret 0");
        fault(FORM, "fun()s:if 1 t @s t:ret 0");
        fault(FORM, "fun()s:go t t:go @s");
        fault(FORM, "fun()s:go t t:if 1 @s t");
        fault(FORM, "fun()s:go t t:if 1 t @s");
        fault(FORM, "fun()s:if 1 @s s");
        fault(FORM, "fun()s:if 1 t @t t:ret 0");
        fault(FORM, "fun()s:go t t:if 1 t @t");
        good("fun()s:go t t:go t");
        good("fun()s:if 1 t u t:ret 0 u:ret 0");
        good("fun()s:go t t:if 1 t u u:ret 0");
    }

    /** "at that of an ARM: no PREDECESSOR of its BLOCK, or that of an ARM ahead of it in the PHI". */
    private static void formAtAnArm() {
        fault(FORM, "fun()s:go t t:p=phi @t 1 ret 0");
        fault(FORM, "fun()s:go t t:p=phi s 1,@t 1 ret 0");
        fault(FORM, "fun()s:p=phi @s 1 ret 0");
        fault(FORM, "fun()s:if 1 t u t:p=phi s 1,@u 1 ret 0 u:ret 0");
        fault(FORM, "fun()s:go t t:go u u:p=phi t 1,@s 1 ret 0");
        fault(FORM, "fun()s:go t t:p=phi s 1,@s 2 ret 0");
        fault(FORM, "fun()s:if 1 t u t:go u u:p=phi s 1,t 2,@s 1 ret 0");
        fault(FORM, "fun()s:if 1 t u t:go u u:p=phi s 1,t 2 q=phi t 1,@t 1 ret 0");
        good("fun()s:if 1 t u t:go u u:p=phi s 1,t 2 q=phi t 1,s 1 ret 0");
        good("fun()s:go t t:p=phi s 1,t 1 go t");
        // The first BLOCK has a PREDECESSOR here, so that its ARM is right, and what names it is not.
        fault(FORM, "fun()s:p=phi t 1 go t t:go @s");
    }

    /** "at phi: a PREDECESSOR without an ARM (only if none of its ARMS is told a FAULT 4 or 5 at its BLOCK's NAME)". */
    private static void formAtPhi() {
        fault(FORM, "fun()s:if 1 t u t:go u u:p=@phi s 1 ret 0");
        fault(FORM, "fun()s:if 1 t u t:go u u:p=@phi t 1 ret 0");
        fault(FORM, "fun()s:if 1 t u t:go u u:p=phi s 1,t 1 q=@phi t 1 ret 0");
        fault(FORM, "fun()s:go t t:p=@phi s 1 go t");
        good("fun()s:if 1 t u t:go u u:p=phi t 1,s 1 ret 0");
        // An ARM with a FAULT of its own, ahead of or behind a good one.
        fault(FORM, "fun()s:if 1 t u t:go u u:p=phi s 1,@s 1 ret 0");
        fault(FORM, "fun()s:if 1 t u t:go u u:p=phi s 1,@u 1 ret 0");
        fault(FORM, "fun()s:if 1 t u t:go u u:p=phi @u 1,s 1 ret 0");
        fault(NAME, "fun()s:if 1 t u t:go u u:p=phi s 1,@z 1 ret 0");
        fault(NAME, "fun()s:if 1 t u t:go u u:p=phi @z 1,s 1 ret 0");
        // A FAULT 4 at an ARM's VAL does not count, nor does one in another PHI.
        fault(FORM, "fun()s:if 1 t u t:go u u:p=@phi s z ret 0");
        fault(FORM, "fun()s:if 1 t u t:go u u:p=@phi s 1 q=phi z 1 ret 0");
    }

    /** "at a BLOCK's NAME: it is not REACHED". */
    private static void formAtABlock() {
        fault(FORM, "fun()s:ret 0 @t:ret 0");
        fault(FORM, "fun()s:ret 0 @t:go t");
        fault(FORM, "fun()s:ret 0 @t:go u u:go t");
        fault(FORM, "fun()s:go u @t:go u u:ret 0");
        fault(FORM, "fun()s:go t t:ret 0 @u:if 1 t v v:ret 0");
        good("fun()s:go u t:ret 0 u:go t");
        good("fun()s:if 1 v t t:ret 0 u:ret 0 v:go u");
        good("fun()s:ret 0");
    }

    /** "6 STRICT, the first VAL that its definition does not DOMINATE". */
    private static void strict() {
        fault(STRICT, "fun()s:a=copy @a ret 0");
        fault(STRICT, "fun()s:a=add @b 1 b=in ret 0");
        good("fun()s:b=in a=add b 1 ret a");
        fault(STRICT, "fun()s:if 1 t u t:a=in go v u:go v v:ret @a");
        good("fun()s:a=in if 1 t u t:go v u:go v v:ret a");
        fault(STRICT, "fun()s:if 1 t u t:a=in ret 0 u:if @a v w v:ret 0 w:ret 0");
        good("fun()s:if 1 t u t:a=in if a v w v:ret a w:ret a u:ret 0");
        // An ARM's use is at the end of the BLOCK that it names.
        good("fun()s:if 1 t u t:a=in go v u:b=in go v v:p=phi t a,u b ret p");
        fault(STRICT, "fun()s:if 1 t u t:a=in go v u:b=in go v v:p=phi t @b,u a ret p");
        fault(STRICT, "fun()s:if 1 t u t:a=in go v u:b=in go v v:p=phi t a,u @a ret p");
        good("fun()s:go t t:p=phi s 1,t q q=add p 1 go t");
        fault(STRICT, "fun()s:go t t:p=phi s @q,t q q=add p 1 go t");
        good("fun()s:go t t:p=phi s 1,t p go t");
        fault(STRICT, "fun()s:go t t:p=phi s @p,t 1 go t");
        good("fun()s:go t t:p=phi s 1,t q q=phi s 1,t p go t");
        // PARAMETERS and PHIS' results are there for the first INS.
        good("fun(a)s:out a go t t:p=phi s a out p ret p");
    }

    /** "BLOCKS, VALUES are numbered from 0 on, as they stand". */
    private static void numberedAsTheyStand() {
        PaletteHouse x = CHECK.good("fun(d,c)s:b=in go u t:a=phi u z,w 1 y=in ret y u:z=in if z t w w:go t");
        int[] homes = {0, 0, 0, 1, 1, 2};
        int[] points = {0, 0, 1, 0, 1, 1};
        for (int v = 0; v < homes.length; v++) {
            due("BLOCK of " + v, x.value(v, 0), homes[v]);
            due("POINT of " + v, x.value(v, 1), points[v]);
        }
        due("VALUES", x.count(1), 6);
        due("IDOM of t", x.block(1, 0), 2);
        due("IDOM of u", x.block(2, 0), 0);
        due("IDOM of w", x.block(3, 0), 2);
        due("END of u", x.block(2, 5), 1);
    }

    /** "With a FAULT nothing changes." */
    private static void withAFaultNothingChanges() {
        String[] marked = {"fun()s:ret@", "fun(a,b,c,d,e,f,g,h,@i)s:ret 0", "fun(a,@a)s:ret 0", "fun()s:ret @z",
            "fun()s:go @s", "fun()s:out @a a=in ret 0"};
        for (int state = 0; state < States.COUNT; state++) {
            for (int n = 0; n < marked.length; n++) {
                String name = "FAULT " + (n + 1) + " in " + States.name(state);
                PaletteHouse touched = States.at(state);
                PaletteHouse twin = States.at(state);
                touched.back(touched.count(12));
                twin.back(twin.count(12));
                Check.feed(touched, marked[n].replace("@", ""));
                due(name, touched.read(), n + 1);
                due(name + ", place", touched.place(), marked[n].indexOf('@'));
                CHECK.same(name, Look.butPlace(touched), Look.butPlace(twin));
            }
        }
    }
}
