/** Part 7, its first half: rows, parts, texts, dictionaries, KEYS and SYSTEM, sentence by sentence. */
public final class RowEdgesTest {
    private static final String MOST = "x".repeat(127);

    public static void main(String[] args) {
        newRows();
        arraysOfValues();
        lengths();
        gets();
        puts();
        parts();
        putParts();
        putPartsOverEachOther();
        loadsAndStores();
        searches();
        beginnings();
        newDictionaries();
        openDictionaries();
        defined();
        found();
        knownAndGone();
        dictionariesOfValues();
        keys();
        longKeys();
        keysOfLoops();
        system();
        Probe.finish();
    }

    /** "array (n) ..; string (n) .. (RANGE for n below 0 or above 65535)" */
    private static void newRows() {
        Probe.leaves("0 array 1 array 0 get 2 string 0 string", "[0] null (\0\0) ()");
        Probe.leaves("-1 array", "-1 error 4");
        Probe.leaves("-1 string", "-1 error 4");
        Probe.leaves("65535 string length 65535 array", "65535 65535 error 14");
        Probe.leaves("65536 string", "65536 error 4");
        Probe.leaves("65536 array", "65536 error 4");
        Probe.leaves("-2147483648 array", "-2147483648 error 4");
        // All null, all 0, also where something was before.
        Probe.leaves("save [ 7 8 9 ] pop (abc) pop 3 string 0 65 put restore 3 array aload pop 3 string",
                "null null null (\0\0\0)");
        Probe.leaves("save 3 string 0 65 put restore 3 string", "(\0\0\0)");
    }

    /** "] (UNMATCHED MARK): the values above the topmost mark as a new array, the mark and they go" */
    private static void arraysOfValues() {
        Probe.leaves("[ ] [ 1 ] mark 1 2 ] 9 [ 8 [ 7 ] ]", "[0] [1] [2] 9 [2]");
        Probe.leaves("1 ]", "1 error 7");
        Probe.leaves("]", "error 7");
        Probe.leaves("<< 1 2 ]", "[2]");
        Probe.leaves("mark 1 [ 2 ] counttomark", "mark 1 [1] 2");
    }

    /** "length (row, dictionary: how many keys are there, name: of bytes)" */
    private static void lengths() {
        Probe.leaves("() length (abc) length [ ] length { 1 2 } length << >> length << 1 2 3 4 >> length",
                "0 3 0 2 0 2");
        Probe.leaves("/ length /abc length /abc cvx length", "0 3 3");
        Probe.leaves("/d << 1 2 3 4 >> def d 1 undef d length d 1 5 put d length", "1 2");
        Probe.leaves("/add load length", "--add-- error 3");
        Probe.leaves("(abc) 1 0 getinterval length", "0");
    }

    /** "get (row n; dictionary v: UNDEFINED if it has it not) ..: RANGE for places that are none" */
    private static void gets() {
        Probe.leaves("(abc) 0 get (abc) 2 get [ 7 8 ] 1 get { x 8 } 0 get (\\377) 0 get", "97 99 8 x 255");
        for (String row : new String[] {"(ab)", "[ 1 2 ]", "{ 1 2 }"}) {
            String left = row.equals("(ab)") ? "(ab)" : row.charAt(0) == '[' ? "[2]" : "{2}";
            Probe.leaves(row + " 2 get", left + " 2 error 4");
            Probe.leaves(row + " -1 get", left + " -1 error 4");
            Probe.leaves(row + " 2147483647 get", left + " 2147483647 error 4");
            Probe.leaves(row + " -2147483648 get", left + " -2147483648 error 4");
        }
        Probe.leaves("() 0 get", "() 0 error 4");
        Probe.leaves("(abcd) 1 2 getinterval 2 get", "(bc) 2 error 4");
        Probe.leaves("(abcd) 1 2 getinterval 1 get", "99");
        Probe.leaves("<< /a 1 >> /a get", "1");
        Probe.leaves("<< /a 1 >> /b get", "<1> /b error 5");
        Probe.leaves("<< /a 1 >> null get", "<1> null error 3");
        Probe.leaves("/add where pop /add get /add where pop /x get", "--add-- <140> /x error 5");
    }

    /** "put (row n v; a text takes a whole number, .. of 0 .. 255, RANGE for others; dictionary v v)" */
    private static void puts() {
        Probe.leaves("/t (abc) def t 0 0 put t 2 255 put t", "(\0b\u00ff)");
        Probe.leaves("(abc) 0 256 put", "(abc) 0 256 error 4");
        Probe.leaves("(abc) 0 -1 put", "(abc) 0 -1 error 4");
        Probe.leaves("(abc) 3 65 put", "(abc) 3 65 error 4");
        Probe.leaves("(abc) -1 65 put", "(abc) -1 65 error 4");
        Probe.leaves("(abc) 0 65.0 put", "(abc) 0 4259840u error 3");
        Probe.leaves("(abc) 9 (a) put", "(abc) 9 (a) error 3");
        Probe.leaves("[ 1 2 ] 2 9 put", "[2] 2 9 error 4");
        Probe.leaves("[ 1 2 ] -1 9 put", "[2] -1 9 error 4");
        Probe.leaves("[ 1 2 ] 0.0 9 put", "[2] 0u 9 error 3");
        Probe.leaves("/a [ 1 2 ] def a 1 a put a 1 get a eq", "true");
        Probe.leaves("/a [ 1 2 3 ] def a 1 1 getinterval 1 9 put", "[1] 1 9 error 4");
        Probe.leaves("/d << >> def d 1 2 put d 1 3 put d 1 get d length", "3 1");
        Probe.leaves("<< >> null 2 put", "<0> null 2 error 3");
        Probe.leaves("<< >> 1 null put", "");
    }

    /** "getinterval (row n m): .. (RANGE when n or m is below 0, or both together above the length)" */
    private static void parts() {
        Probe.leaves("(abc) 0 3 getinterval (abc) 3 0 getinterval (abc) 1 1 getinterval () 0 0 getinterval",
                "(abc) () (b) ()");
        Probe.leaves("[ 1 2 3 ] 1 2 getinterval { 1 2 3 } 0 2 getinterval", "[2] {2}");
        Probe.leaves("(abc) 0 4 getinterval", "(abc) 0 4 error 4");
        Probe.leaves("(abc) 2 2 getinterval", "(abc) 2 2 error 4");
        Probe.leaves("(abc) 4 0 getinterval", "(abc) 4 0 error 4");
        Probe.leaves("(abc) -1 2 getinterval", "(abc) -1 2 error 4");
        Probe.leaves("(abc) 2 -1 getinterval", "(abc) 2 -1 error 4");
        Probe.leaves("(abc) 2147483647 2147483647 getinterval", "(abc) 2147483647 2147483647 error 4");
        Probe.leaves("(abc) 1 2147483647 getinterval", "(abc) 1 2147483647 error 4");
        Probe.leaves("(abcdef) 1 4 getinterval 1 2 getinterval", "(cd)");
        Probe.leaves("(abcdef) 1 4 getinterval 1 4 getinterval", "(bcde) 1 4 error 4");
        Probe.leaves("/t (abc) def t 1 1 getinterval 0 120 put t", "(axc)");
    }

    /** "putinterval (row n row2 ..; RANGE when n is below 0 or not all fit, though none may)" */
    private static void putParts() {
        Probe.leaves("/t (abc) def t 0 (xyz) putinterval t t 1 () putinterval t 3 () putinterval t 2 (q) putinterval t",
                "(xyq) (xyq)");
        Probe.leaves("(abc) 1 (xyz) putinterval", "(abc) 1 (xyz) error 4");
        Probe.leaves("(abc) 3 (x) putinterval", "(abc) 3 (x) error 4");
        Probe.leaves("(abc) 4 () putinterval", "(abc) 4 () error 4");
        Probe.leaves("(abc) -1 () putinterval", "(abc) -1 () error 4");
        Probe.leaves("(abc) -1 (x) putinterval", "(abc) -1 (x) error 4");
        Probe.leaves("(abc) 2147483647 (x) putinterval", "(abc) 2147483647 (x) error 4");
        Probe.leaves("() 0 () putinterval [ ] 0 { } putinterval", "");
        Probe.leaves("/a [ 1 2 3 ] def a 1 { 8 9 } putinterval a aload pop", "1 8 9");
        Probe.leaves("[ 1 2 3 ] 2 { 8 9 } putinterval", "[3] 2 {2} error 4");
        Probe.leaves("[ 1 ] 0 (a) putinterval", "[1] 0 (a) error 3");
        Probe.leaves("(a) 0 [ 1 ] putinterval", "(a) 0 [1] error 3");
        Probe.leaves("<< >> 0 << >> putinterval", "<0> 0 <0> error 3");
    }

    /** "from the first one on, or from the last one on if the first place that is read lies before .." */
    private static void putPartsOverEachOther() {
        Probe.leaves("/t (abcdef) def t 2 t 0 4 getinterval putinterval t", "(ababcd)");
        Probe.leaves("/t (abcdef) def t 0 t 2 4 getinterval putinterval t", "(cdefef)");
        Probe.leaves("/t (abcdef) def t 1 t 1 3 getinterval putinterval t", "(abcdef)");
        Probe.leaves("/a [ 1 2 3 4 ] def a 1 a 0 3 getinterval putinterval a aload pop", "1 1 2 3");
        Probe.leaves("/a [ 1 2 3 4 ] def a 0 a 1 3 getinterval putinterval a aload pop", "2 3 4 4");
        Probe.leaves("/a [ 1 2 3 4 ] def a 0 a putinterval a aload pop", "1 2 3 4");
    }

    /** "aload (array or procedure: its values, then itself), astore (.. the last one the topmost)" */
    private static void loadsAndStores() {
        Probe.leaves("[ 1 2 ] aload { 3 x } aload [ ] aload", "1 2 [2] 3 x {2} [0]");
        Probe.leaves("1 2 3 2 array astore aload pop", "1 2 3");
        Probe.leaves("9 0 array astore", "9 [0]");
        Probe.leaves("1 2 { 7 8 } astore aload pop", "1 2");
        Probe.leaves("1 2 array astore", "1 [2] error 1");
        Probe.leaves("2 array astore", "[2] error 1");
        Probe.leaves("1 2 2 array astore pop", "");
        Probe.leaves("(ab) aload", "(ab) error 3");
        Probe.leaves("1 (a) astore", "1 (a) error 3");
    }

    /** "search (text seek): the first place where seek's bytes are: the part behind, .. like it, .. before" */
    private static void searches() {
        Probe.leaves("(abcbd) (b) search", "(cbd) (b) (a) true");
        Probe.leaves("(abc) (abc) search", "() (abc) () true");
        Probe.leaves("(abc) (c) search", "() (c) (ab) true");
        Probe.leaves("(abc) () search", "(abc) () () true");
        Probe.leaves("() () search", "() () () true");
        Probe.leaves("() (a) search", "() false");
        Probe.leaves("(abc) (abcd) search", "(abc) false");
        Probe.leaves("(abc) (d) search", "(abc) false");
        Probe.leaves("(aab) (ab) search", "() (ab) (a) true");
        Probe.leaves("(aaa) (aa) search", "(a) (aa) () true");
        Probe.leaves("(abc) (bd) search", "(abc) false");
        Probe.leaves("/t (abc) def t (b) search pop 0 120 put 0 121 put pop t", "(xyc)");
        Probe.leaves("(xabc) 1 3 getinterval (xa) search", "(abc) false");
        Probe.leaves("(abcx) 0 3 getinterval (cx) search", "(abc) false");
    }

    /** "anchorsearch: likewise at its beginning" */
    private static void beginnings() {
        Probe.leaves("(abab) (ab) anchorsearch", "(ab) (ab) true");
        Probe.leaves("(abc) (abc) anchorsearch", "() (abc) true");
        Probe.leaves("(abc) () anchorsearch", "(abc) () true");
        Probe.leaves("() () anchorsearch", "() () true");
        Probe.leaves("(abc) (bc) anchorsearch", "(abc) false");
        Probe.leaves("(abc) (abcd) anchorsearch", "(abc) false");
        Probe.leaves("() (a) anchorsearch", "() false");
    }

    /** "dict (n): a new dictionary (RANGE below 0; n does not count otherwise)" */
    private static void newDictionaries() {
        Probe.leaves("0 dict 1 dict 2147483647 dict", "<0> <0> <0>");
        Probe.leaves("-1 dict", "-1 error 4");
        Probe.leaves("-2147483648 dict", "-2147483648 error 4");
        Probe.leaves("0 dict dup begin /a 1 def /b 2 def end length", "2");
    }

    /** "begin (dictionary; DICTIONARY STACK OVERFLOW), end (UNDERFLOW at the two lowest)" */
    private static void openDictionaries() {
        Probe.leaves("18 { 0 dict begin } repeat countdictstack", "20");
        Probe.leaves("19 { 0 dict begin } repeat", "<0> error 9");
        Probe.leaves("18 { 0 dict begin } repeat 18 { end } repeat countdictstack", "2");
        Probe.leaves("end", "error 8");
        Probe.leaves("1 { 0 dict begin } repeat 2 { end } repeat", "error 8");
        Probe.depthIs("18 { 0 dict begin } repeat", 1, 20);
        Probe.depthIs("19 { 0 dict begin } repeat", 1, 20);
        Probe.leaves("currentdict dup begin begin countdictstack", "4");
        Probe.leaves("/add where pop begin countdictstack currentdict length", "3 140");
    }

    /** "def (v w): .. in the topmost dictionary. store (v w): in the topmost one that has the key" */
    private static void defined() {
        Probe.leaves("/a 1 def 0 dict begin /a 2 def a end a", "2 1");
        Probe.leaves("/a 1 def 0 dict begin /a 2 store currentdict length end a", "0 2");
        Probe.leaves("0 dict begin /a 2 store currentdict length end currentdict length", "1 0");
        Probe.leaves("/a 1 def << /a 5 >> begin << >> begin /a 2 store end a end a", "2 1");
        Probe.leaves("/a 1 def << /a 5 >> begin currentdict /a undef /a 2 store currentdict length end a", "0 2");
        Probe.leaves("null 1 def", "null 1 error 3");
        Probe.leaves("null 1 store", "null 1 error 3");
        Probe.leaves("1 null def 1 load", "null");
    }

    /** "load (v): as it is found in THE DICTIONARIES (UNDEFINED)", "where (v: the dictionary .., true; or false)" */
    private static void found() {
        Probe.leaves("/a { 1 } def /a load /add load /true load /null load", "{1} --add-- true null");
        Probe.leaves("/nonesuch load", "/nonesuch error 5");
        Probe.leaves("5 load", "5 error 5");
        Probe.leaves("null load", "null error 3");
        Probe.leaves("/a 1 def /a where /nonesuch where /add where", "<1> true false <140> true");
        Probe.leaves("null where", "null error 3");
        Probe.leaves("/a 1 def << /a 2 >> dup begin /a where pop eq /a load end /a load", "true 2 1");
        Probe.leaves("/true 7 def true /true load /true where pop length", "7 7 1");
    }

    /** "known (dictionary v), undef (dictionary v: the key is gone; nothing if it is not there)" */
    private static void knownAndGone() {
        Probe.leaves("/d << /a 1 >> def d /a known d /b known d 1 known d (a) known d /a cvx known",
                "true false false true true");
        Probe.leaves("/d << /a 1 >> def d /a undef d /a known d /a undef d /b undef d length", "false 0");
        Probe.leaves("/d << /a 1 >> def d /a undef d /a get", "<0> /a error 5");
        Probe.leaves("/a 1 def currentdict /a undef a", "error 5");
        Probe.leaves("<< >> null known", "<0> null error 3");
        Probe.leaves("<< >> null undef", "<0> null error 3");
    }

    /** ">> (UNMATCHED MARK; RANGE if they are odd): .. first all keys are looked at in turn" */
    private static void dictionariesOfValues() {
        Probe.leaves("<< >> << 1 2 >> mark 1 2 3 4 >> 9 << 8 << 7 6 >> >>", "<0> <1> <2> 9 <1>");
        Probe.leaves(">>", "error 7");
        Probe.leaves("1 2 >>", "1 2 error 7");
        Probe.leaves("<< 1 >>", "mark 1 error 4");
        Probe.leaves("<< 1 2 3 >>", "mark 1 2 3 error 4");
        Probe.leaves("<< null >>", "mark null error 4");
        Probe.leaves("<< null 1 >>", "mark null 1 error 3");
        Probe.leaves("<< 1 2 null 3 >>", "mark 1 2 null 3 error 3");
        Probe.leaves("<< 1 null >>", "<1>");
        Probe.leaves("<< (" + MOST + "x) 1 null 2 >>", "mark (" + MOST + "x) 1 null 2 error 4");
        Probe.leaves("<< null 2 (" + MOST + "x) 1 >>", "mark null 2 (" + MOST + "x) 1 error 3");
        Probe.leaves("<< 1 2 1 3 1.0 4 >> dup length exch 1 get", "1 4");
        Probe.leaves("[ 1 2 >>", "<1>");
    }

    /** "KEYS: a text counts as the name of its bytes .., a real that is whole as that whole number .." */
    private static void keys() {
        Probe.leaves("/d 0 dict def d /a 1 put d (a) 2 put d /a cvx 3 put d length d (a) get", "1 3");
        Probe.leaves("/d 0 dict def d 1 1 put d 1.0 2 put d 1.5 3 put d length d 1 get d 1.5 get", "2 2 3");
        Probe.leaves("/d 0 dict def d 1 1 put d 1.00001525878 known d 0.99998 known d 65537 known", "false false false");
        Probe.leaves("/d 0 dict def d -1.0 1 put d -1 get d -0.5 2 put d -0.5 get d 0 3 put d 0.0 get", "1 2 3");
        Probe.leaves("/d 0 dict def d 32767.0 1 put d 32767 get d 32768 known", "1 false");
        Probe.leaves("/d 0 dict def /p { 1 } def d /p load 1 put d /p load cvlit get d { 1 } known", "1 false");
        Probe.leaves("/d 0 dict def d true 1 put d false 2 put d mark 3 put d true get d false get d mark get",
                "1 2 3");
        Probe.leaves("/d 0 dict def d d 1 put d d get d << >> known", "1 false");
        Probe.leaves("/d 0 dict def d /add load 1 put d /add known d /add load get", "false 1");
        Probe.leaves("/d 0 dict def /s save def d s 1 put d s get d save known", "1 false");
        Probe.leaves("/d 0 dict def /a [ 1 2 ] def d a 1 put d a 0 2 getinterval known", "false");
        Probe.leaves("/d 0 dict def d () 1 put d / get d 1 known d (1) known", "1 false false");
        Probe.leaves("/d 0 dict def d (ab) 1 put d (ab) dup 0 120 put known d /ab known", "false true");
    }

    /** "(RANGE above 127 ..)" for a text as a key, of whatever operator. */
    private static void longKeys() {
        String most = "(" + MOST + ")";
        String more = "(" + MOST + "x)";
        Probe.leaves(most + " 1 def " + most + " load", "1");
        Probe.leaves(more + " 1 def", more + " 1 error 4");
        Probe.leaves(most + " 1 store " + most + " where", "<1> true");
        Probe.leaves(more + " 1 store", more + " 1 error 4");
        Probe.leaves(more + " load", more + " error 4");
        Probe.leaves(most + " load", most + " error 5");
        Probe.leaves(more + " where", more + " error 4");
        Probe.leaves(most + " where", "false");
        Probe.leaves("<< >> " + more + " known", "<0> " + more + " error 4");
        Probe.leaves("<< >> " + most + " known", "false");
        Probe.leaves("<< >> " + more + " undef", "<0> " + more + " error 4");
        Probe.leaves("<< >> " + most + " undef", "");
        Probe.leaves("<< >> " + more + " get", "<0> " + more + " error 4");
        Probe.leaves("<< >> " + most + " get", "<0> " + most + " error 5");
        Probe.leaves("<< >> " + more + " 1 put", "<0> " + more + " 1 error 4");
        Probe.leaves("<< " + most + " 1 >> length", "1");
        Probe.leaves("<< " + more + " 1 >>", "mark " + more + " 1 error 4");
        Probe.leaves("<< 1 " + more + " >> length", "1");
        Probe.leaves(more + " findfont", more + " error 4");
        Probe.leaves(most + " findfont", most + " error 16");
    }

    /** "(so they come by forall: names that stand, arrays)" */
    private static void keysOfLoops() {
        Probe.leaves("<< (a) 1 /b cvx 2 { x } 3 2.0 4 2.5 5 >> { pop } forall", "/a /b [1] 2 163840u");
    }

    /** "SYSTEM can't be changed, nor gone through (put, def, store, undef, copy ..: RANGE)" */
    private static void system() {
        String s = "/add where pop ";
        Probe.leaves(s + "/x 1 put", "<140> /x 1 error 4");
        Probe.leaves(s + "/add 1 put", "<140> /add 1 error 4");
        Probe.leaves(s + "begin /x 1 def", "/x 1 error 4");
        Probe.leaves(s + "begin /x 1 store", "/x 1 error 4");
        Probe.leaves("/add 1 store", "/add 1 error 4");
        Probe.leaves("/true 1 store", "/true 1 error 4");
        Probe.leaves("/x 1 def " + s + "begin /x 2 store x", "2");
        Probe.leaves(s + "/add undef", "<140> /add error 4");
        Probe.leaves(s + "/x undef", "<140> /x error 4");
        Probe.leaves(s + "{ } forall", "<140> {0} error 4");
        Probe.leaves(s + "null 1 put", "<140> null 1 error 3");
        Probe.leaves(s + "dup length exch /add known", "140 true");
        Probe.leaves("/add { sub } def 5 2 add " + s + "/add get", "3 {1}");
        Probe.leaves(s + "setfont", "<140> error 16");
    }
}
