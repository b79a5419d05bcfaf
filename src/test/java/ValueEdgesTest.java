/** Part 6, sentence by sentence: operands, comparing, kinds, writing. */
public final class ValueEdgesTest {
    public static void main(String[] args) {
        simple();
        index();
        roll();
        copyOfOperands();
        copyOfRows();
        copyOfDictionaries();
        marks();
        same();
        sizes();
        types();
        doneOrNot();
        namesOfTexts();
        writtenToTexts();
        written();
        fullOutput();
        Probe.finish();
    }

    private static void simple() {
        Probe.leaves("1 2 3 pop exch dup", "2 1 1");
        Probe.leaves("clear count 1 count clear count", "0");
        Probe.leaves("mark [ <<", "mark mark mark");
    }

    /** "index (.. n: the n-th below the top, 0 the topmost: RANGE below 0; STACKUNDERFLOW if there is none)" */
    private static void index() {
        Probe.leaves("7 8 9 0 index", "7 8 9 9");
        Probe.leaves("7 8 9 2 index", "7 8 9 7");
        Probe.leaves("7 8 9 3 index", "7 8 9 3 error 1");
        Probe.leaves("0 index", "0 error 1");
        Probe.leaves("7 -1 index", "7 -1 error 4");
        Probe.leaves("-1 index", "-1 error 4");
        Probe.leaves("7 2147483647 index", "7 2147483647 error 1");
        Probe.leaves("7 -2147483648 index", "7 -2147483648 error 4");
    }

    /** "roll (.. n j: .. round and round, down if j is below 0: RANGE for n below 0, STACKUNDERFLOW)" */
    private static void roll() {
        Probe.leaves("1 2 3 4 3 1 roll", "1 4 2 3");
        Probe.leaves("1 2 3 4 3 -1 roll", "1 3 4 2");
        Probe.leaves("1 2 3 3 0 roll 3 3 roll 3 -3 roll 3 6 roll", "1 2 3");
        Probe.leaves("1 2 3 3 4 roll", "3 1 2");
        Probe.leaves("1 2 3 3 -4 roll", "2 3 1");
        Probe.leaves("1 2 3 4 4 3 roll", "2 3 4 1");
        Probe.leaves("1 2 3 3 2147483647 roll", "3 1 2");
        Probe.leaves("1 2 3 3 -2147483648 roll", "3 1 2");
        Probe.leaves("1 2 0 1 roll 1 5 roll 0 -2147483648 roll", "1 2");
        Probe.leaves("0 0 roll", "");
        Probe.leaves("1 2 2 1 roll", "2 1");
        Probe.leaves("1 2 3 1 roll", "1 2 3 1 error 1");
        Probe.leaves("1 2147483647 0 roll", "1 2147483647 0 error 1");
        Probe.leaves("1 -1 0 roll", "1 -1 0 error 4");
        Probe.leaves("-2147483648 1 roll", "-2147483648 1 error 4");
        Probe.due("498 of them", new Probe().run(Probe.full(498) + "498 1 roll"), 0);
    }

    /** "copy (TYPECHECK .., then STACKUNDERFLOW ..): with n on top: .. (RANGE below 0; STACKUNDERFLOW)" */
    private static void copyOfOperands() {
        Probe.leaves("1 2 0 copy", "1 2");
        Probe.leaves("1 2 1 copy", "1 2 2");
        Probe.leaves("1 2 2 copy", "1 2 1 2");
        Probe.leaves("1 2 3 copy", "1 2 3 error 1");
        Probe.leaves("0 copy", "");
        Probe.leaves("1 copy", "1 error 1");
        Probe.leaves("-1 copy", "-1 error 4");
        Probe.leaves("1 -2147483648 copy", "1 -2147483648 error 4");
        Probe.leaves("1 2147483647 copy", "1 2147483647 error 1");
        Probe.leaves("1.0 copy", "65536u error 3");
        Probe.leaves("null copy", "null error 3");
        Probe.leaves("(a) copy", "(a) error 1");
        Probe.leaves("{ } copy", "{0} error 1");
        Probe.leaves("<< >> copy", "<0> error 1");
    }

    /** "two rows of the same sort ..: the second gets all values of the first one (RANGE if it is shorter)" */
    private static void copyOfRows() {
        Probe.leaves("(ab) (ab) copy (ab) (xyz) copy () (x) copy () () copy", "(ab) (ab) () ()");
        Probe.leaves("(abc) (xy) copy", "(abc) (xy) error 4");
        Probe.leaves("/t (xyz) def (ab) t copy pop t", "(abz)");
        Probe.leaves("[ 1 2 ] 2 array copy [ 1 2 ] 3 array copy { 1 } [ 2 3 ] copy [ 1 ] { 2 3 } copy",
                "[2] [2] [1] {1}");
        Probe.leaves("{ 1 2 } [ 1 ] copy", "{2} [1] error 4");
        Probe.leaves("(a) [ 1 ] copy", "(a) [1] error 3");
        Probe.leaves("[ 1 ] (a) copy", "[1] (a) error 3");
        Probe.leaves("<< >> [ 1 ] copy", "<0> [1] error 3");
        Probe.leaves("5 (a) copy", "5 (a) error 3");
        // What is left is a new part, that shares the second one's places.
        Probe.leaves("/a [ 1 2 3 ] def [ 7 8 ] a copy 0 9 put a aload pop", "9 8 3");
        Probe.leaves("/a [ 1 2 ] def [ 7 8 ] a copy a eq a a eq", "false true");
        // Parts of one row that lie over one another.
        Probe.leaves("/t (abcdef) def t 0 4 getinterval t 2 4 getinterval copy pop t", "(ababcd)");
        Probe.leaves("/t (abcdef) def t 2 4 getinterval t copy pop t", "(cdefef)");
        Probe.leaves("/a [ 1 2 3 4 ] def a 0 3 getinterval a 1 3 getinterval copy pop a aload pop", "1 1 2 3");
        Probe.leaves("/a [ 1 2 3 4 ] def a 1 3 getinterval a copy pop a aload pop", "2 3 4 4");
    }

    /** "or two dictionaries: .. or all its keys (in their order) .. the dictionary itself" */
    private static void copyOfDictionaries() {
        Probe.leaves("<< /a 1 /b 2 >> << /b 3 /c 4 >> copy { } forall", "/b 2 /c 4 /a 1");
        Probe.leaves("<< >> << >> copy << >> << 1 2 >> copy << 1 2 >> << >> copy", "<0> <1> <1>");
        Probe.leaves("/d << /a 1 >> def d d copy d eq d length", "true 1");
        Probe.leaves("/d << /a 1 /b 2 >> def d /a undef d << >> copy { } forall", "/b 2");
        Probe.leaves("/add where pop << >> copy", "<140> <0> error 4");
        Probe.leaves("<< >> /add where pop copy", "<0> <140> error 4");
    }

    /** "cleartomark, counttomark (UNMATCHED MARK if there is none)" */
    private static void marks() {
        Probe.leaves("mark counttomark", "mark 0");
        Probe.leaves("1 mark 2 mark 3 4 counttomark", "1 mark 2 mark 3 4 2");
        Probe.leaves("1 mark 2 mark 3 cleartomark", "1 mark 2");
        Probe.leaves("mark cleartomark", "");
        Probe.leaves("1 counttomark", "1 error 7");
        Probe.leaves("counttomark", "error 7");
        Probe.leaves("1 cleartomark", "1 error 7");
        Probe.leaves("cleartomark", "error 7");
    }

    private static void alike(String both, boolean are) {
        Probe.leaves(both + " eq", "" + are);
        Probe.leaves(both + " ne", "" + !are);
    }

    /** "Two values are THE SAME when .." of part 3 */
    private static void same() {
        alike("1 1", true);
        alike("1 1.0", true);
        alike("1 1.00002", false);
        alike("32768 32767.99998", false);
        alike("-2147483648 -2147483648", true);
        alike("/a /a", true);
        alike("/a /a cvx", true);
        alike("/a (a)", true);
        alike("(a) /a cvx", true);
        alike("(a) (a)", true);
        alike("(a) (b)", false);
        alike("(a) (ab)", false);
        alike("(a) /ab", false);
        alike("() /", true);
        alike("() ()", true);
        alike("(new) /neww", false);
        alike("(cd) /ab", false);
        alike("/ab (cd)", false);
        alike("(abc) /ab", false);
        alike("/ab (abc)", false);
        alike("5 /abc", false);
        alike("/abc 5", false);
        alike("null /a", false);
        alike("/a [ 1 ]", false);
        alike("<< >> /abc", false);
        alike("/abc (ab) 0 1 getinterval", false);
        for (String other : new String[] {"true", "false", "null", "mark", "0", "1", "0.0", "currentdict", "/add load"}) {
            alike("(abc) pop " + other + " /abc", false);
            alike("(abc) pop /abc " + other, false);
            alike("(abc) " + other, false);
        }
        alike("true true", true);
        alike("false false", true);
        alike("true false", false);
        alike("null null", true);
        alike("mark mark", true);
        alike("null mark", false);
        alike("null false", false);
        alike("0 false", false);
        alike("1 (1)", false);
        alike("/add load /add load", true);
        alike("/add load /sub load", false);
        alike("/add load /add", false);
        alike("/add load (add)", false);
        alike("save dup", true);
        alike("save save", false);
        alike("[ 1 ] dup", true);
        alike("[ 1 ] dup cvx", true);
        alike("[ 1 ] [ 1 ]", false);
        alike("[ ] [ ]", false);
        alike("{ } { }", false);
        alike("[ 1 ] dup 0 1 getinterval", false);
        alike("{ 1 } dup 0 1 getinterval", false);
        alike("[ 1 2 ] 0 1 getinterval dup", true);
        alike("/a [ 1 2 ] def a 0 1 getinterval a 0 1 getinterval", false);
        alike("(ab) dup 0 2 getinterval", true);
        alike("<< >> dup", true);
        alike("<< >> << >>", false);
        alike("/add where pop /sub where pop", true);
        alike("[ 1 ] (a)", false);
        alike("[ 1 ] (ab) 0 1 getinterval", false);
        // However many there are of each kind, none is like one of another kind.
        Probe.tells("/s 9 string def /r 200 array def 0 1 199 { r exch 0 array put } for /n 200 array def "
                + "0 1 199 { n exch dup s cvs cvn put } for false r { /v exch def n { v eq or } forall "
                + "0 1 199 { v eq or } for } forall =", "false");
        Probe.tells("/r 40 array def 0 1 39 { r exch 0 dict put } for /p 40 array def 0 1 39 { p exch 0 array put } for "
                + "false r { /v exch def p { v eq or } forall 0 1 39 { v eq or } for } forall =", "false");
        alike("<< >> [ ]", false);
    }

    /** "gt ge lt le (two numbers, by size, or two texts, by bytes)" */
    private static void sizes() {
        Probe.leaves("1 1 gt 1 1 ge 1 1 lt 1 1 le", "false true false true");
        Probe.leaves("1 1.00002 gt 1 1.00002 ge 1 1.00002 lt 1 1.00002 le", "false false true true");
        Probe.leaves("2147483647 32767.99998 gt -2147483648 -32767.99998 ge 2147483647 -2147483648 lt",
                "true false false");
        Probe.leaves("(a) (a) gt (a) (a) ge (a) (a) lt (a) (a) le", "false true false true");
        Probe.leaves("(a) (ab) lt (ab) (a) lt () (\\000) lt () () le (b) (ab) gt", "true false true true true");
        Probe.leaves("1.00002 1 le 1 1.00002 ge (b) (a) le (a) (b) ge (ab) (a) le (a) (ab) ge",
                "false false false false false false");
        Probe.leaves("1.00002 1 gt 1 1.00002 lt (b) (a) gt (a) (b) lt (ab) (a) gt (a) (ab) lt",
                "true true true true true true");
        Probe.leaves("(\\377) (\\177) gt (\\200) (\\177) gt (a\\377) (a\\000) lt", "true true false");
        Probe.leaves("/a (a) gt", "/a (a) error 3");
        Probe.leaves("true false gt", "true false error 3");
    }

    /** "type (v): a name to be done: .." */
    private static void types() {
        String[] values = {"null", "true", "false", "1", "1.0", "mark", "/a", "/a cvx", "(a)", "[ ]", "{ }", "<< >>",
            "/add load", "save"};
        String[] names = {"nulltype", "booleantype", "booleantype", "integertype", "realtype", "marktype", "nametype",
            "nametype", "stringtype", "arraytype", "arraytype", "dicttype", "operatortype", "savetype"};
        String[] done = {"false", "false", "false", "false", "false", "false", "false", "true", "false", "false",
            "true", "false", "true", "false"};
        for (int i = 0; i < values.length; i++) {
            Probe.leaves(values[i] + " type", names[i]);
            Probe.leaves(values[i] + " xcheck", done[i]);
        }
        Probe.leaves("1 type /integertype eq 1 type (integertype) eq", "true true");
    }

    /** "cvx (v): an array as a procedure ..; others stay. cvlit: the other way; operators stay." */
    private static void doneOrNot() {
        Probe.leaves("[ 1 ] cvx { 1 } cvx /a cvx /a cvx cvx (a) cvx 1 cvx null cvx /add load cvx << >> cvx",
                "{1} {1} a a (a) 1 null --add-- <0>");
        Probe.leaves("[ 1 ] cvlit { 1 } cvlit /a cvlit /a cvx cvlit (a) cvlit 1 cvlit /add load cvlit mark cvlit",
                "[1] [1] /a /a (a) 1 --add-- mark");
    }

    /** "cvn (text): a name that stands for itself with these bytes (RANGE above 127 bytes)" */
    private static void namesOfTexts() {
        String most = "x".repeat(127);
        Probe.leaves("() cvn (a b) cvn (1) cvn (add) cvn (\\000) cvn", "/ /a b /1 /add /\0");
        Probe.leaves("(" + most + ") cvn", "/" + most);
        Probe.leaves("(" + most + "x) cvn", "(" + most + "x) error 4");
        Probe.tells("{ 65535 string cvn } stopped = lasterror = length =", "true 4 65535");
        // It has the bytes as they are, not as they come to be.
        Probe.leaves("/t (ab) def t cvn t 0 120 put t", "/ab (xb)");
    }

    /** "cvs (v text): .. (RANGE if it is shorter): that part of it" */
    private static void writtenToTexts() {
        Probe.leaves("12 (xx) cvs 12 (xxx) cvs", "(12) (12)");
        Probe.leaves("12 (x) cvs", "12 (x) error 4");
        Probe.leaves("12 () cvs", "12 () error 4");
        Probe.leaves("() () cvs () (x) cvs", "() ()");
        Probe.leaves("/t (xxxx) def 12 t cvs pop t", "(12xx)");
        Probe.leaves("/t (xxxx) def 12 t 1 2 getinterval cvs 0 57 put t", "(x92x)");
        Probe.leaves("null 15 string cvs", "(--nostringval--)");
        Probe.leaves("null 14 string cvs", "null (" + "\0".repeat(14) + ") error 4");
        Probe.leaves("-2147483648 11 string cvs", "(-2147483648)");
        Probe.leaves("-2147483648 10 string cvs pop", "-2147483648 (" + "\0".repeat(10) + ") error 4");
        Probe.leaves("/t (abcd) def t 1 2 getinterval t cvs t", "(bc) (bccd)");
        Probe.leaves("/t (abcd) def t 0 3 getinterval t 1 3 getinterval cvs t", "(abc) (aabc)");
    }

    /** "Written is .. a real by its digits before the point (at least one), the point, and five digits" */
    private static void written() {
        Probe.tells("0 = 2147483647 = -2147483648 = -1 = 100 =", "0 2147483647 -2147483648 -1 100");
        Probe.tells("0.0 = 0.5 = 10.0 = 32767.99998 = -32767.99998 =",
                "0.00000 0.50000 10.00000 32767.99998 -32767.99998");
        Probe.tells("0.00001525878 = -0.00001525878 = 0.99998 = 1.00002 =", "0.00002 -0.00002 0.99998 1.00002");
        // Sizes are rounded: a half goes up, also before a minus.
        Probe.tells("0.015625 = -0.015625 = 0.046875 = -0.046875 = 1.015625 =",
                "0.01563 -0.01563 0.04688 -0.04688 1.01563");
        Probe.tells("true = false = /a = /a cvx = /add load = (x\\377) = / = () print () =",
                "true false a a add x\u00ff  ".trim());
        Probe.tells("null = mark = [ 1 ] = { 1 } = << >> = save =", "--nostringval-- ".repeat(6).trim());
        Probe.tells("12 = null = (abc) = mark = 1.5 = [ ] = /x = null =",
                "12 --nostringval-- abc --nostringval-- 1.50000 --nostringval-- x --nostringval--");
        Probe p = new Probe();
        p.run("(a) print () print (b\\012) print / =");
        Probe.due("print writes no byte 10, = does", p.output(), "ab\n\n");
    }

    /** "The output has at most 65536 bytes (LIMIT)." */
    private static void fullOutput() {
        String print = "32768 string dup print 0 32767 getinterval print ";
        Probe p = new Probe();
        Probe.due("65536 bytes", p.run(print + "(a) print () print"), 0);
        Probe.due("all of them", p.machine.output(), 65536);
        Probe.due("the last one", p.machine.outputAt(65535), 'a');
        Probe.due("none behind it", p.machine.outputAt(65536), -1);
        Probe.due("a byte 10 as the last one", p.run(print + "() ="), 0);
        Probe.due("all of them", p.machine.outputAt(65535), 10);
        Probe.leaves(print + "(ab) print", "(ab) error 12");
        Probe.leaves(print + "(a) =", "(a) error 12");
        Probe.leaves(print + "(a) print () =", "() error 12");
        Probe.leaves(print + "(a) print (b) print", "(b) error 12");
        p.run(print + "(a) =");
        Probe.due("what is refused is not written", p.machine.output(), 65535);
        p.load("");
        Probe.due("load writes nothing", p.machine.output(), 0);
        Probe.due("and keeps nothing", p.machine.outputAt(0), -1);
    }
}
