/** The text: tokens, grammar and faults, each told at the place of the @ in the text. */
public final class FaultsTest {
    private static final int SYNTAX = 1;
    private static final int ROOM = 2;
    private static final int TWICE = 3;
    private static final int NAME = 4;
    private static final int FORM = 5;
    private static final int STRICT = 6;

    private static final Check CHECK = new Check();

    private FaultsTest() {
    }

    public static void main(String[] args) {
        tokens();
        grammar();
        rooms();
        names();
        forms();
        strict();
        several();
        CHECK.end("FaultsTest");
    }

    private static void fault(int number, String marked) {
        CHECK.fault(number, marked);
    }

    private static void good(String text) {
        fault(0, text);
    }

    private static void tokens() {
        good("fun()a:ret 0");
        good("\t\n\r fun\n(\t)\ra : ret\n0\n");
        good("fun()a1b2c3d4:ret-2147483648");
        good("fun()a:out 2147483647out 0000000001out-0ret-0000000005");
        good("fun(a)b:c=add a-5d=add 5a out c ret d");
        good("fun(funny)phib:in1=in ret in1");
        fault(SYNTAX, "@");
        fault(SYNTAX, "   @");
        fault(SYNTAX, "@\u000bfun()a:ret 0");
        fault(SYNTAX, "fun()a:ret @2147483648");
        fault(SYNTAX, "fun()a:ret @-2147483649");
        fault(SYNTAX, "fun()a:ret @00000000001");
        fault(SYNTAX, "fun()a:ret @9999999999");
        fault(SYNTAX, "fun()a:ret @-");
        fault(SYNTAX, "fun()a:ret @- 5");
        fault(SYNTAX, "fun()a:ret @--5");
        fault(SYNTAX, "fun()@a23456789:ret 0");
        fault(SYNTAX, "fun()@abcdefghi");
        fault(SYNTAX, "fun()a:ret 0@A");
        fault(SYNTAX, "fun()a:ret@_0");
        fault(SYNTAX, "fun()a:ret@\u00e1");
        fault(SYNTAX, "@\0");
        fault(SYNTAX, "fun()a:ret 0@;");
        fault(SYNTAX, "fun()a:@1b=in ret 0");
    }

    private static void grammar() {
        good("fun(a,b,c)s:ret a");
        good("fun()s:if 1 t u t:go u u:p=phi s 1,t 2 q=phi t 4,s 3 ret p");
        fault(SYNTAX, "@go");
        fault(SYNTAX, "fun @a");
        fault(SYNTAX, "fun(@,a)s:ret 0");
        fault(SYNTAX, "fun(a @b)s:ret 0");
        fault(SYNTAX, "fun(a,@)s:ret 0");
        fault(SYNTAX, "fun(a@:");
        fault(SYNTAX, "fun(@7)s:ret 0");
        fault(SYNTAX, "fun(@in)s:ret 0");
        fault(SYNTAX, "fun()@");
        fault(SYNTAX, "fun() @ret 0");
        fault(SYNTAX, "fun()s@=in");
        fault(SYNTAX, "fun()s:@");
        fault(SYNTAX, "fun()s:a=in@");
        fault(SYNTAX, "fun()s:@in");
        fault(SYNTAX, "fun()s:@copy 1");
        fault(SYNTAX, "fun()s:a=@out 1");
        fault(SYNTAX, "fun()s:a=@put 1 2");
        fault(SYNTAX, "fun()s:a=@go s");
        fault(SYNTAX, "fun()s:a=@fun");
        fault(SYNTAX, "fun()s:a=@1");
        fault(SYNTAX, "fun()s:a=@b");
        fault(SYNTAX, "fun()s:a@:");
        fault(SYNTAX, "fun()s:a=add 1@=");
        fault(SYNTAX, "fun()s:a=copy 1 @2");
        fault(SYNTAX, "fun()s:a=get @out 1");
        fault(SYNTAX, "fun()s:put 1 @ret 0");
        fault(SYNTAX, "fun()s:out @ret 0");
        fault(SYNTAX, "fun()s:go @1");
        fault(SYNTAX, "fun()s:go @ret");
        fault(SYNTAX, "fun()s:if 1 s @2");
        fault(SYNTAX, "fun()s:if 1 @2 s");
        fault(SYNTAX, "fun()s:ret @");
        fault(SYNTAX, "fun()s:ret 0 @5");
        fault(SYNTAX, "fun()s:ret 0 t@");
        fault(SYNTAX, "fun()s:ret 0 @ret 0");
        fault(SYNTAX, "fun()s:a=in p=@phi s 1 ret 0");
        fault(SYNTAX, "fun()s:out 1 p=@phi s 1 ret 0");
        fault(SYNTAX, "fun()s:p=phi @1 s ret 0");
        fault(SYNTAX, "fun()s:p=phi @ret 0");
        fault(SYNTAX, "fun()s:p=phi s @ret 0");
        fault(SYNTAX, "fun()s:p=phi s @,");
        fault(SYNTAX, "fun()s:p=phi s 1,@ret 0");
        fault(SYNTAX, "fun()s:@,");
    }

    private static String many(String part, int n) {
        return Check.many(part, n);
    }

    private static void rooms() {
        String put = "put 1 2 ";
        // 5 tokens ahead, 3 a put, 2 an out, 2 of ret.
        good("fun()s:" + many(put, 397) + "out 1 ret 0");
        fault(ROOM, "fun()s:" + many(put, 398) + "ret @0");
        fault(ROOM, "fun()s:" + many(put, 397) + "out 1 out 1 @ret 0");
        fault(SYNTAX, "fun()s:" + many(put, 397) + "out 1 ret 0 @5");
        fault(ROOM, "fun()s:" + many(put, 397) + "out 1 ret 0 @t:");
        fault(ROOM, "fun()s:" + many(put, 397) + "out 1 out 1 @x=in ret 0");
        fault(ROOM, "fun()s:" + many(put, 397) + "out 1 out 1 @x");
        fault(ROOM, "fun()s:" + many(put, 397) + "x=in out @1 ret 0");
        fault(SYNTAX, "fun()s:" + many(put, 397) + "x=in out @ret 0");
        fault(SYNTAX, "fun()s:" + many(put, 397) + "out 1 out 1@");
        fault(SYNTAX, "fun()s:" + many(put, 397) + "out 1 out 1@?");
        fault(SYNTAX, "fun()s:" + many(put, 398) + "ret @phi");
        good("fun()b0:" + many("go b# b#:", 30).substring("go b0 b0:".length()) + "ret 0");
        fault(ROOM, "fun()b0:" + many("go b# b#:", 30).substring("go b0 b0:".length()) + "ret 0 @b31:ret 0");
        fault(ROOM, "fun()b0:" + many("go b# b#:", 30).substring("go b0 b0:".length()) + "ret 0 @b31");
        good("fun(a,b,c,d,e,f,g,h)s:ret a");
        fault(ROOM, "fun(a,b,c,d,e,f,g,h,@i)s:ret a");
        fault(ROOM, "fun(a,b,c,d,e,f,g,h,@a");
        fault(SYNTAX, "fun(a,b,c,d,e,f,g,h,@)s:ret a");
        good("fun(a,b,c,d,e,f,g,h)s:" + many("v#=in ", 142) + "ret 0");
        fault(ROOM, "fun(a,b,c,d,e,f,g,h)s:" + many("v#=in ", 142) + "@x=in ret 0");
        fault(ROOM, "fun()s:" + many("v#=in ", 150) + "@v0 ret 0");
        good("fun()s:" + many("out 1 ", 399) + "ret 0");
        fault(ROOM, "fun()s:" + many("out 1 ", 400) + "@ret 0");
        fault(ROOM, "fun()s:" + many("out 1 ", 400) + "@out 1 ret 0");
        fault(ROOM, "fun()s:" + many("out 1 ", 400) + "@x=in ret 0");
        fault(SYNTAX, "fun()s:" + many("out 1 ", 400) + "@in");
        fault(ROOM, "fun()s:" + many("out 1 ", 398) + "go t t:p=phi s 1 @ret 0");
        fault(ROOM, "fun()s:" + many("out 1 ", 399) + "go t t:@p=phi s 1 ret 0");
        good("fun()s:" + many("out 1 ", 397) + "go t t:p=phi s 1 ret 0");
        fault(ROOM, "fun()s:" + many("out 1 ", 399) + "go t t:@ret 0");
        // Room comes ahead of what is wrong with names, wherever these stand.
        fault(ROOM, "fun(a,a,c,d,e,f,g,h,@i)s:ret z");
        fault(SYNTAX, "fun(a,a)s:ret@");
    }

    private static void names() {
        good("fun(a,s)s:t=in go t t:ret t");
        fault(TWICE, "fun(a,@a)s:ret a");
        fault(TWICE, "fun(a)s:b=in @a=in ret a");
        fault(TWICE, "fun()s:go t t:go u u:p=phi t 1 q=phi t 1 @p=phi t 2 ret p");
        fault(TWICE, "fun()s:go t @s:go t t:ret 0");
        fault(TWICE, "fun()s:go t t:ret 0 @t:ret 0");
        fault(TWICE, "fun()s:a=in @a=in a=in ret 0");
        fault(NAME, "fun()s:ret @z");
        fault(NAME, "fun()s:ret @s");
        fault(NAME, "fun(a)s:go @a");
        fault(NAME, "fun(a)s:if @s t u t:ret 0 u:ret 0");
        fault(NAME, "fun(a)s:if a @x u t:ret 0 u:ret 0");
        fault(NAME, "fun(a)s:if a t @x t:ret 0 u:ret 0");
        fault(NAME, "fun()s:go t t:p=phi s @x ret p");
        fault(NAME, "fun()s:go t t:p=phi @x 1 ret p");
        fault(NAME, "fun()s:put @x y ret 0");
        fault(NAME, "fun()s:out 1 a=add 1 @x ret 0");
        // A definition that stands behind, or in a block that does not come ahead, is no NAME fault.
        fault(STRICT, "fun()s:out @a a=in ret 0");
    }

    private static void forms() {
        fault(FORM, "fun()s:go @s");
        fault(FORM, "fun()s:go t t:if 1 t @s");
        fault(FORM, "fun()s:if 1 @s t t:ret 0");
        fault(FORM, "fun()s:if 1 t @t t:ret 0");
        fault(FORM, "fun()s:ret 0 @t:ret 0");
        fault(FORM, "fun()s:ret 0 @t:go t");
        fault(FORM, "fun()s:go t t:ret 0 @u:go v v:go u");
        fault(FORM, "fun()s:p=phi @s 1 ret 0");
        fault(FORM, "fun()s:go t t:p=phi s 1,@t 2 ret 0");
        fault(FORM, "fun()s:go t t:p=phi s 1,@s 2 ret 0");
        fault(FORM, "fun()s:if 1 t u t:go u u:p=@phi s 1 ret 0");
        fault(FORM, "fun()s:if 1 t u t:go u u:p=phi s 1,t 2 q=@phi t 1 ret 0");
        fault(FORM, "fun()s:if 1 t u t:go u u:p=phi s 1,@s 2 ret 0");
        // No fault at phi, if an ARM is told one at its BLOCK's NAME; but one at its VAL is another thing.
        fault(NAME, "fun()s:if 1 t u t:go u u:p=phi s 1,@x 2 ret 0");
        fault(FORM, "fun()s:if 1 t u t:go u u:p=@phi s x ret 0");
        // A way from a BLOCK that is not REACHED makes a PREDECESSOR all the same.
        fault(FORM, "fun()s:go t t:p=@phi s 1 ret 0 u:go t");
        fault(FORM, "fun()s:go t t:p=phi s 1,u 2 ret 0 @u:go t");
        good("fun()s:go t t:p=phi s 1,t 2 go t");
        good("fun()s:if 1 t u t:go u u:p=phi t 1,s 2 ret 0");
    }

    private static void strict() {
        good("fun(a)s:b=add a a c=add b a go t t:d=add c b ret d");
        fault(STRICT, "fun()s:a=add 1 @a ret 0");
        fault(STRICT, "fun()s:a=add 1 @b b=in ret 0");
        fault(STRICT, "fun()s:if 1 t u t:a=in go u u:ret @a");
        fault(STRICT, "fun()s:if 1 t u t:a=in ret 0 u:out @a ret 0");
        fault(STRICT, "fun()s:out @a go t t:a=in ret 0");
        fault(STRICT, "fun()s:if 1 t u t:a=in go u u:p=phi t a,s @a ret 0");
        good("fun()s:if 1 t u t:a=in go u u:p=phi t a,s 1 ret 0");
        good("fun()s:go l l:p=phi s 1,l q q=add p 1 if q l e e:ret q");
        good("fun()s:go l l:p=phi s 1,l p go l");
        fault(STRICT, "fun()s:go l l:p=phi s @p,l p go l");
        good("fun()s:go l l:p=phi s 1,l q q=phi s 2,l p go l");
        good("fun()s:go l l:p=phi s 1,m a if p m e m:a=in go l e:ret p");
        fault(STRICT, "fun()s:go l l:p=phi s 1,m a if p m e m:a=in go l e:ret @a");
        fault(STRICT, "fun()s:go t t:p=phi s @q q=in ret 0");
        // A definition may stand behind in the text, if its BLOCK DOMINATES.
        good("fun()s:go t u:ret a t:a=in go u");
        fault(STRICT, "fun()s:put @x x go t t:x=in ret 0");
    }

    private static void several() {
        // The first by its place, whatever its number, among 3, 4 and 5.
        fault(FORM, "fun()s:go @s t:a=in a=in ret z");
        fault(NAME, "fun()s:out @z a=in a=in ret 0 t:ret 0");
        fault(TWICE, "fun()s:a=in @a=in out z go s");
        // Of one place the least: TWICE ahead of FORM at a BLOCK's NAME.
        fault(TWICE, "fun()s:ret 0 @s:ret 0");
        // STRICT only if there is none of the others, though it stands ahead.
        fault(FORM, "fun()s:out a a=in ret 0 @t:ret 0");
        fault(NAME, "fun()s:out a a=in ret @z");
        fault(TWICE, "fun()s:out a a=in @a=in ret 0");
    }
}
