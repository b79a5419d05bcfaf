/** Part 6 and the first half of part 7: operands, comparing, writing, rows and dictionaries. */
public final class ValuesTest {
    public static void main(String[] args) {
        operands();
        copies();
        comparing();
        kinds();
        writing();
        rows();
        intervals();
        searching();
        dictionaries();
        keys();
        system();
        Probe.finish();
    }

    private static void operands() {
        Probe.tells("1 2 exch = = 3 dup = = 1 2 clear count =", "1 2 3 3 0");
        Probe.tells("7 8 9 0 index = 2 index = -1 index", "9 7 error 4");
        Probe.tells("7 1 index", "error 1");
        Probe.tells("1 2 3 4 3 1 roll = = = =", "3 2 4 1");
        Probe.tells("1 2 3 3 -1 roll = = =", "1 3 2");
        Probe.tells("1 2 3 3 -4 roll = = =", "1 3 2");
        Probe.tells("1 2 0 5 roll = =", "2 1");
        Probe.tells("1 2 3 1 roll", "error 1");
        Probe.tells("1 -1 1 roll", "error 4");
        Probe.tells("1 mark 2 [ 3 << 4 counttomark = cleartomark counttomark = cleartomark = cleartomark counttomark",
                "1 1 2 error 7");
        Probe.tells("cleartomark", "error 7");
        Probe.tells("pop", "error 1");
        Probe.tells("1 exch", "error 1");
    }

    private static void copies() {
        Probe.tells("1 2 2 copy = = = = 0 copy count =", "2 1 2 1 0");
        Probe.tells("1 2 copy", "error 1");
        Probe.tells("1 -1 copy", "error 4");
        Probe.tells("copy", "error 1");
        Probe.tells("1 true copy", "error 3");
        Probe.tells("[ 1 ] copy", "error 1");
        Probe.tells("5 [ 1 ] copy", "error 3");
        Probe.tells("(a) [ 1 ] copy", "error 3");
        Probe.tells("[ 1 2 ] 3 array dup 3 1 roll copy dup length = 0 get = 1 get =", "2 1 2");
        Probe.tells("{ 1 2 } [ 3 4 5 ] copy type = [ 6 ] { 7 8 } copy xcheck =", "arraytype true");
        Probe.tells("[ 1 2 ] [ 3 ] copy", "error 4");
        Probe.tells("(ab) (xyz) dup 3 1 roll copy = =", "ab abz");
        Probe.tells("<< /a 1 /b 2 >> << /b 7 /c 8 >> copy { exch = = } forall", "b 2 c 8 a 1");
        // What is left is a new part, though of the whole; a dictionary is itself.
        Probe.tells("/t 2 array def [ 1 2 ] t copy t eq = /d 2 dict def << >> d copy d eq =", "false true");
    }

    private static void comparing() {
        Probe.tells("1 1.0 eq = 1 1.5 eq = (a) /a eq = /a cvx /a eq = (ab) (ab) eq =",
                "true false true true true");
        Probe.tells("null null eq = mark mark eq = true true eq = true false eq = true 1 eq =",
                "true true true false false");
        Probe.tells("[ ] [ ] eq = /a [ 1 ] def a a cvx eq = a a 0 1 getinterval eq =", "false true false");
        Probe.tells("/add load /add load eq = /add load /add eq = 1 2 ne = 1 1 ne =",
                "true false true false");
        Probe.tells("40000 39999.0 ne", "state -5");
        Probe.tells("1 2 lt = 2 2 le = 2.5 2 gt = 2 2.5 ge = -2147483648 -32767.5 lt =",
                "true true true false true");
        Probe.tells("(a) (b) lt = (ab) (a) gt = (\\377) (a) gt = () () ge =", "true true true true");
        Probe.tells("1 (a) lt", "error 3");
        Probe.tells("/a /b lt", "error 3");
        Probe.tells("1 lt", "error 1");
    }

    private static void kinds() {
        Probe.tells("null type = true type = 1 type = 1.0 type = mark type = /a type =",
                "nulltype booleantype integertype realtype marktype nametype");
        Probe.tells("(a) type = [ ] type = { } type = << >> type = /add load type = save type =",
                "stringtype arraytype arraytype dicttype operatortype savetype");
        Probe.tells("1 type xcheck = { } xcheck = [ ] xcheck = /a cvx xcheck = /a xcheck = (a) cvx xcheck =",
                "true true false true false false");
        Probe.tells("/add load xcheck = /add load cvlit xcheck = { } cvlit xcheck = [ ] cvx xcheck =",
                "true true false true");
        Probe.tells("(abc) cvn = (abc) cvn xcheck = () cvn length =", "abc false 0");
        Probe.tells("(" + "x".repeat(127) + ") cvn length =", "127");
        Probe.tells("(" + "x".repeat(128) + ") cvn length =", "error 4");
        Probe.tells("/a cvn", "error 3");
    }

    private static void writing() {
        Probe.tells("-2147483648 = 0 = /a = /b cvx = (c) = /add load =", "-2147483648 0 a b c add");
        Probe.tells("null = [ ] = { } = mark = << >> = save =", "--nostringval-- ".repeat(6).trim());
        Probe.tells("1.5 = -1.5 = 0.0 = -0.00001 = 0.00001 = 32767.99998 =",
                "1.50000 -1.50000 0.00000 -0.00002 0.00002 32767.99998");
        Probe.tells("(a) print (b) print", "ab");
        Probe.tells("/a print", "error 3");
        Probe.tells("123 5 string cvs = 1.5 10 string cvs = true 4 string cvs = (ab) 2 string cvs =",
                "123 1.50000 true ab");
        Probe.tells("123 2 string cvs", "error 4");
        Probe.tells("12 5 array cvs", "error 3");
        Probe.tells("/t (xxxxx) def 12 t cvs length = t =", "2 12xxx");
        Probe.tells("/t (abcd) def t 0 2 getinterval t cvs = t =", "ab abcd");
        Probe p = new Probe();
        p.run("655 { (" + "x".repeat(100) + ") print } repeat (" + "y".repeat(34) + ") print 1 =");
        Probe.due("the output is full", p.machine.output(), 65536);
        Probe.due("to its last byte", p.machine.outputAt(65535), 10);
        Probe.due("and takes no more", p.run("656 { (" + "x".repeat(100) + ") print } repeat"), 2);
        Probe.due("by LIMIT", p.machine.error(), 12);
        Probe.due("nor a part", p.machine.output(), 65500);
    }

    private static void rows() {
        Probe.tells("3 array { = } forall 2 string { = } forall",
                "--nostringval-- --nostringval-- --nostringval-- 0 0");
        Probe.tells("-1 array", "error 4");
        Probe.tells("-1 string", "error 4");
        Probe.tells("65536 string", "error 4");
        Probe.tells("65535 string length =", "65535");
        Probe.tells("40000 array", "error 14");
        Probe.tells("1 [ 2 [ 3 ] 4 ] length = =", "3 1");
        Probe.tells("1 ]", "error 7");
        Probe.tells("(abc) length = [ 1 2 ] length = << 1 2 >> length = /abcd length =", "3 2 1 4");
        Probe.tells("5 length", "error 3");
        Probe.tells("(abc) 1 get = [ 7 8 ] 1 get = { 7 x } 1 get =", "98 8 x");
        Probe.tells("(abc) 3 get", "error 4");
        Probe.tells("(abc) -1 get", "error 4");
        Probe.tells("(abc) 1.0 get", "error 3");
        Probe.tells("5 1 get", "error 3");
        Probe.tells("(abc) dup 1 65 put = [ 1 2 ] dup 0 (x) put 0 get =", "aAc x");
        Probe.tells("(abc) 0 256 put", "error 4");
        Probe.tells("(abc) 0 /a put", "error 3");
        Probe.tells("[ 1 ] 1 5 put", "error 4");
        Probe.tells("[ 1 2 3 ] aload pop = = = 4 5 2 array astore aload pop = =", "3 2 1 5 4");
        Probe.tells("1 2 array astore", "error 1");
        Probe.tells("(ab) aload", "error 3");
    }

    private static void intervals() {
        Probe.tells("(abcdef) 2 3 getinterval = [ 1 2 3 ] 3 0 getinterval length =", "cde 0");
        Probe.tells("(abc) 2 2 getinterval", "error 4");
        Probe.tells("(abc) -1 1 getinterval", "error 4");
        Probe.tells("(abc) 1 -1 getinterval", "error 4");
        Probe.tells("(abc) 1 2147483647 getinterval", "error 4");
        Probe.tells("/a [ 1 2 3 4 ] def a 1 2 getinterval 0 9 put a 1 get =", "9");
        Probe.tells("/t (abcdef) def t 2 (xy) putinterval t =", "abxyef");
        Probe.tells("/t (abcdef) def t 1 t 0 5 getinterval putinterval t =", "aabcde");
        Probe.tells("/t (abcdef) def t 0 t 1 5 getinterval putinterval t =", "bcdeff");
        Probe.tells("/a [ 1 2 3 4 ] def a 1 a 0 3 getinterval putinterval a { = } forall", "1 1 2 3");
        Probe.tells("/a [ 1 2 3 4 ] def a 0 a 1 3 getinterval putinterval a { = } forall", "2 3 4 4");
        Probe.tells("(abc) 3 () putinterval", "");
        Probe.tells("(abc) 4 () putinterval", "error 4");
        Probe.tells("(abc) 2 (xy) putinterval", "error 4");
        Probe.tells("(abc) 0 [ 1 ] putinterval", "error 3");
        Probe.tells("[ 1 2 ] 0 { x } putinterval", "");
    }

    private static void searching() {
        Probe.tells("(abcbd) (b) search = = = =", "true a b cbd");
        Probe.tells("(abc) (x) search = =", "false abc");
        Probe.tells("(abc) () search = length = length = =", "true 0 0 abc");
        Probe.tells("(ab) (abc) search =", "false");
        Probe.tells("(abcd) (ab) anchorsearch = = = (abcd) (bc) anchorsearch = =",
                "true ab cd false abcd");
        // The parts share the text's bytes.
        Probe.tells("/t (abc) def t (b) search pop pop 0 88 put pop t =", "aXc");
        Probe.tells("(a) 5 search", "error 3");
    }

    private static void dictionaries() {
        Probe.tells("5 dict length = -1 dict", "0 error 4");
        Probe.tells("/d 1 dict def d begin /a 1 def /b 2 def end d length = d /a get = { a } stopped = lasterror =",
                "2 1 true 5");
        Probe.tells("/a 1 def 1 dict begin /a 2 store a = end a =", "2 2");
        Probe.tells("/a 1 def 1 dict begin /b 2 store end { b } stopped = lasterror =", "true 5");
        Probe.tells("/a 5 def /a load = /nonesuch load", "5 error 5");
        Probe.tells("currentdict /a known = /a 1 def currentdict /a known = currentdict /a undef currentdict /a known =",
                "false true false");
        Probe.tells("/a 1 def /a where = currentdict eq = /nonesuch where =", "true true false");
        Probe.tells("countdictstack = 1 dict begin countdictstack = currentdict length = end", "2 3 0");
        Probe.tells("end", "error 8");
        Probe.tells("18 { 1 dict begin } repeat countdictstack = 1 dict begin", "20 error 9");
        Probe.tells("1 begin", "error 3");
        Probe.tells("<< /a 1 /a 2 >> dup length = /a get =", "1 2");
        Probe.tells("<< 1 >>", "error 4");
        Probe.tells("1 >>", "error 7");
        Probe.tells("<< null 1 >>", "error 3");
        Probe.tells("<< (" + "x".repeat(128) + ") 1 null 2 >>", "error 4");
        Probe.tells("<< /a 1 >> /b get", "error 5");
    }

    private static void keys() {
        Probe.tells("/d 9 dict def d (ab) 1 put d /ab get = d (ab) get = d /ab cvx get =", "1 1 1");
        Probe.tells("/d 9 dict def d 1.0 5 put d 1 get = d 1.5 6 put d 1.5 get = d length =", "5 6 2");
        Probe.tells("/d 9 dict def /r [ 1 ] def d r 1 put d r cvx get = d [ 1 ] known =", "1 false");
        Probe.tells("/d 9 dict def d d 1 put d true 2 put d mark 3 put d d get = d true get = d mark get =",
                "1 2 3");
        Probe.tells("null 1 def", "error 3");
        Probe.tells("<< >> null get", "error 3");
        Probe.tells("<< >> null known", "error 3");
        Probe.tells("(" + "x".repeat(128) + ") 1 def", "error 4");
        Probe.tells("(" + "x".repeat(128) + ") load", "error 4");
        Probe.tells("(" + "x".repeat(127) + ") 1 def (" + "x".repeat(127) + ") load =", "1");
    }

    private static void system() {
        Probe.tells("/s /add where pop def s length = s /add known = s /foo known = s 1 known =",
                "140 true false false");
        Probe.tells("/s /add where pop def s /add get = s /true get =", "add true");
        Probe.tells("/add where pop /a 1 put", "error 4");
        Probe.tells("/add 1 store", "error 4");
        Probe.tells("/add where pop begin /a 1 def", "error 4");
        Probe.tells("/add where pop /add undef", "error 4");
        Probe.tells("/add where pop 5 dict copy", "error 4");
        Probe.tells("<< >> /add where pop copy", "error 4");
        Probe.tells("/add { sub } def 5 2 add =", "3");
    }
}
