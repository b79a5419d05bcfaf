/** THE STORE, of part 3: the last row, place, byte, dictionary, key, change and name, and one more. */
public final class StoreEdgesTest {
    private static final String FONT = "<< /FontMatrix [ 1 0 0 1 0 0 ] /BuildGlyph { } >> ";

    public static void main(String[] args) {
        rows();
        places();
        bytes();
        oneIsFull();
        dictionaries();
        keys();
        keysOfOtherOperators();
        saves();
        changes();
        whatVmLeaves();
        restoreGivesBack();
        names();
        nameBytes();
        namesOfTypes();
        namesThatAreNotMade();
        namesOfTheTape();
        rowsOfTheTape();
        Probe.finish();
    }

    private static int count(String program, char c) {
        int found = 0;
        for (int i = 0; i < program.length(); i++) {
            found += program.charAt(i) == c ? 1 : 0;
        }
        return found;
    }

    /** The program is fine with so many rows left for it, and VM comes with one less. */
    private static void needsRows(String program, int needed) {
        int taken = 1 + count(program, '{') + count(program, '(');
        Probe p = new Probe();
        String most = (16384 - taken - needed) + " { 0 array pop } repeat " + program;
        Probe.due(most, p.run(most), 0);
        String more = (16384 - taken - needed + 1) + " { 0 array pop } repeat " + program;
        Probe.due(more, p.run(more), 2);
        Probe.due("VM of " + more, p.machine.error(), 14);
    }

    /** "THE STORE has 16384 rows" */
    private static void rows() {
        needsRows("0 array", 1);
        needsRows("0 string", 1);
        needsRows("[ 1 2 ]", 1);
        needsRows("{ 1 2 } 0 0 getinterval", 1);
        needsRows("(abc) (defg) copy", 1);
        needsRows("{ 1 } { 2 } copy", 1);
        needsRows("12 (abc) cvs", 1);
        needsRows("(abc) (b) search", 3);
        needsRows("(abc) (a) anchorsearch", 2);
        needsRows("matrix", 1);
        needsRows(FONT + "2 scalefont", 2);
        // What finds nothing, and what makes no row, wants no room.
        Probe p = new Probe();
        Probe.due("no row is wanted", p.run("16381 { 0 array pop } repeat (abc) (x) search"), 0);
        Probe.due("nor for a beginning", p.run("16381 { 0 array pop } repeat (abc) (b) anchorsearch"), 0);
        Probe.due("nor for keys", p.run("16382 { 0 array pop } repeat (abc) 1 def << 1 2 >> begin"), 0);
    }

    /** "32768 places" */
    private static void places() {
        Probe.leaves("32767 array length 1 array length 0 array length", "32767 1 0");
        Probe.leaves("32768 array length 0 array length 1 array", "32768 0 1 error 14");
        Probe.leaves("32769 array", "32769 error 14");
        Probe.leaves("32765 array pop [ 1 2 3 ]", "[3]");
        Probe.leaves("32766 array pop [ 1 2 3 ]", "mark 1 2 3 error 14");
        Probe.leaves("32762 array pop matrix", "[6]");
        Probe.leaves("32763 array pop matrix", "error 14");
        Probe.leaves("32756 array pop " + FONT + "2 scalefont", "<2>");
        Probe.leaves("32757 array pop " + FONT + "2 scalefont", "<2> 2 error 14");
        Probe.leaves("32757 array pop " + FONT + "{ 2 scalefont } stopped clear countdictstack", "2");
        Probe.leaves("[ 1 2 ] 32766 array copy 0 get", "1");
        Probe.leaves("32762 array pop matrix currentmatrix 1 2 getinterval", "[2]");
        // A part takes no places.
        Probe.leaves("32768 array 0 32768 getinterval length", "32768");
    }

    /** "65536 bytes" */
    private static void bytes() {
        Probe.leaves("65535 string length 1 string length 0 string length", "65535 1 0");
        Probe.leaves("65535 string length 2 string", "65535 2 error 14");
        Probe.leaves("65535 string pop 1 string pop 1 string", "1 error 14");
        Probe.leaves("65535 string 0 65535 getinterval length", "65535");
        Probe.leaves("65525 string pop (abc) (defghij) copy 12 exch cvs (1) search", "(2) (1) () true");
        Probe.leaves("65525 string pop (abc) (defghij) copy (a) anchorsearch", "(bc) (a) true");
        Probe.leaves("65535 array", "65535 error 14");
        Probe.leaves("65536 array", "65536 error 4");
    }

    /** Where one is full the others are not. */
    private static void oneIsFull() {
        Probe.leaves("32768 array pop 5 string length 0 array length", "5 0");
        Probe.leaves("65535 string pop 1 string pop 5 array length [ 1 2 ] length 0 string length matrix length", "5 2 0 6");
        Probe.leaves("65532 string pop (abcd) 1 2 getinterval length [ 1 2 ] 1 1 getinterval length", "2 1");
        Probe.leaves("32766 array pop [ 1 2 ] 1 1 getinterval length (abcd) 1 2 getinterval length", "1 2");
        Probe.leaves("32768 array pop 12 (abc) cvs (abc) (b) search pop pop pop pop (abc) (a) anchorsearch pop pop pop", "(12)");
        Probe.leaves("32768 array pop (abc) (xyz) copy 0 dict << 1 2 >>", "(abc) <0> <1>");
        Probe.leaves("16383 { 0 array pop } repeat << 1 2 >> 0 dict", "<1> <0>");
        Probe.leaves("65535 string pop 1 string pop " + FONT + "2 scalefont", "<2>");
    }

    /** "1024 dictionaries (with USER and FONTS, not SYSTEM)" */
    private static void dictionaries() {
        Probe.leaves("1021 { 0 dict pop } repeat 0 dict", "<0>");
        Probe.leaves("1022 { 0 dict pop } repeat 0 dict", "0 error 14");
        Probe.leaves("1021 { 0 dict pop } repeat << 1 2 >>", "<1>");
        Probe.leaves("1022 { 0 dict pop } repeat << 1 2 >>", "mark 1 2 error 14");
        Probe.leaves("1020 { 0 dict pop } repeat " + FONT + "2 scalefont", "<2>");
        Probe.leaves("1021 { 0 dict pop } repeat " + FONT + "2 scalefont", "<2> 2 error 14");
        Probe.leaves("1022 { 0 dict pop } repeat -1 dict", "-1 error 4");
    }

    private static String fillKeys(int n) {
        return "0 1 " + (n - 1) + " { 0 def } for ";
    }

    /** "16384 keys (each counts when it first comes to a dictionary, and stays counted ..)" */
    private static void keys() {
        Probe.leaves(fillKeys(16384) + "currentdict length", "16384");
        Probe.leaves(fillKeys(16384) + "99999 1 def", "99999 1 error 14");
        Probe.leaves(fillKeys(16383) + "99999 1 def 99999 load", "1");
        // One that is there, or was there, is no new one.
        Probe.leaves(fillKeys(16384) + "5 77 def 5 load", "77");
        Probe.leaves(fillKeys(16384) + "currentdict 5 undef 5 78 def 5 load", "78");
        Probe.leaves(fillKeys(16384) + "currentdict 5 undef 99999 1 def", "99999 1 error 14");
        // The same key in another dictionary counts as well.
        Probe.leaves(fillKeys(16383) + "<< 1 2 >>", "<1>");
        Probe.leaves(fillKeys(16384) + "<< 1 2 >>", "mark 1 2 error 14");
        Probe.leaves(fillKeys(16384) + "<< >>", "<0>");
    }

    private static void keysOfOtherOperators() {
        Probe.leaves(fillKeys(16383) + "currentdict /x 1 put x", "1");
        Probe.leaves(fillKeys(16384) + "currentdict /x 1 put", "<16384> /x 1 error 14");
        Probe.leaves(fillKeys(16383) + "/x 1 store x", "1");
        Probe.leaves(fillKeys(16384) + "/x 1 store", "/x 1 error 14");
        Probe.leaves(fillKeys(16381) + FONT + "/F exch definefont", "<2>");
        Probe.leaves(fillKeys(16382) + FONT + "/F exch definefont", "/F <2> error 14");
        Probe.leaves(fillKeys(16380) + FONT + "2 scalefont", "<2>");
        Probe.leaves(fillKeys(16381) + FONT + "2 scalefont", "<2> 2 error 14");
        Probe.leaves(fillKeys(16380) + "<< 1 2 3 4 >> << >> copy", "<2>");
        // "(VM between leaves what was made by >>, scalefont.)", and copy leaves what it had set.
        Probe.leaves(fillKeys(16381) + "<< 1 2 3 4 >> << >> copy", "<2> <1> error 14");
        Probe.leaves(fillKeys(16382) + "{ << 1 2 3 4 5 6 >> } stopped cleartomark { 99999 1 def } stopped",
                "99999 1 true");
        Probe.leaves(fillKeys(16381) + FONT + "{ 2 scalefont } stopped clear { 99999 1 def } stopped", "99999 1 true");
        Probe.leaves("1021 { 0 dict pop } repeat " + fillKeys(16383) + "{ << 1 2 3 4 >> } stopped clear { 0 dict } stopped",
                "0 true");
    }

    /** "15 saves that are not gone", of which the pile has room for 12: glyphs make room there. */
    private static void saves() {
        String glyphs = "<< /FontMatrix matrix /BuildGlyph { pop pop save pop } >> setfont 0 0 moveto ";
        Probe.leaves(glyphs + "15 { (a) show } repeat", "");
        Probe.leaves(glyphs + "14 { (a) show } repeat save", "save15");
        Probe.leaves(glyphs + "15 { (a) show } repeat save", "error 14");
        Probe.leaves(glyphs + "15 { (a) show } repeat 12 { gsave } repeat save", "error 12");
        Probe.leaves("12 { save } repeat 12 { pop } repeat", "");
        Probe.leaves("12 { save } repeat 12 { pop } repeat save", "error 12");
        Probe.leaves("100 { save restore } repeat save", "save101");
        Probe.leaves("save 11 { save pop } repeat restore 12 { save pop } repeat save", "error 12");
    }

    /** An array of old places, and 40000 changes of it remembered but so many. */
    private static String changesLeft(int left) {
        return "/n 0 def /a 20000 array def /k 0 def /d << 1 2 3 4 5 6 >> def /o 9 array def /m matrix def "
                + "/s save def 0 1 19999 { a exch 1 put } for "
                + "/z save def 0 1 " + (19999 - left) + " { a exch 1 put } for ";
    }

    /** "40000 remembered changes (the first one behind a save of a place or key that was there at it)" */
    private static void changes() {
        // The key z came behind the save: it is none of those that are remembered.
        Probe.leaves(changesLeft(1) + "o 0 5 put o 0 get", "5");
        Probe.leaves(changesLeft(1) + "o 0 5 put o 1 6 put", "[9] 1 6 error 14");
        Probe.leaves(changesLeft(1) + "o 0 5 put o 0 6 put a 0 7 put o 0 get", "6");
        Probe.leaves(changesLeft(2) + "/k 1 def o 0 5 put k", "1");
        Probe.leaves(changesLeft(1) + "/k 1 def /k 2 def /n 1 def", "/n 1 error 14");
        Probe.leaves(changesLeft(1) + "d 3 undef d 3 9 put d 3 get", "9");
        Probe.leaves(changesLeft(1) + "o 0 5 put d 3 undef", "<3> 3 error 14");
        Probe.leaves(changesLeft(1) + "o 0 5 put d 3 known d length d 7 undef", "true 3");
        Probe.leaves(changesLeft(1) + "o 0 5 put /n 1 store", "/n 1 error 14");
        Probe.leaves(changesLeft(1) + "o 0 5 put d 5 1 put", "<3> 5 1 error 14");
        // What came behind the save is not remembered, nor are bytes.
        Probe.leaves(changesLeft(1) + "o 0 5 put /new 1 def /new 2 def 3 array 0 9 put (abc) 0 65 put new", "2");
        Probe.leaves(changesLeft(1) + "o 0 5 put /z 5 def z", "5");
        Probe.leaves(changesLeft(1) + "o 0 5 put 1 array 0 9 put", "");
        // Behind a restore a key's change for an older save is remembered still.
        Probe.leaves(changesLeft(3) + "/k 1 def /y save def /k 2 def y restore o 0 5 put o 1 6 put /k 3 def k", "3");
        Probe.leaves(changesLeft(3) + "/k 1 def /y save def /k 2 def y restore o 0 5 put o 1 6 put /n 3 def",
                "/n 3 error 14");
        Probe.leaves(changesLeft(1) + "o 0 5 put /F << /FontMatrix m /BuildGlyph { } >> definefont pop", "");
        // Without a save nothing is remembered.
        Probe.leaves("/a 30000 array def 2 { 0 1 29999 { a exch 1 put } for } repeat", "");
    }

    /** "where VM comes between: putinterval, astore, currentmatrix and copy leave what they had set" */
    private static void whatVmLeaves() {
        Probe.leaves(changesLeft(2) + "{ o 2 [ 7 8 9 ] putinterval } stopped clear o aload pop",
                "null null 7 8 null null null null null");
        Probe.leaves(changesLeft(2) + "{ o 2 { 7 8 9 } putinterval } stopped clear o aload pop",
                "null null null 8 9 null null null null");
        Probe.leaves(changesLeft(3) + "o 2 { 7 8 9 } putinterval o aload pop",
                "null null 7 8 9 null null null null");
        Probe.leaves(changesLeft(2) + "o 2 { 7 8 9 } putinterval", "[9] 2 {3} error 14");
        // From the last one on, if what is read lies before what is set.
        Probe.leaves("/o [ 1 2 3 4 5 6 ] def " + changesLeft(2).replace("/o 9 array def ", "")
                + "{ o 2 o 0 3 getinterval putinterval } stopped clear o aload pop", "1 2 3 2 3 6");
        Probe.leaves("/o [ 1 2 3 4 5 6 ] def " + changesLeft(2).replace("/o 9 array def ", "")
                + "{ o 0 o 2 3 getinterval putinterval } stopped clear o aload pop", "3 4 3 4 5 6");
        Probe.leaves("/o [ 1 2 3 4 5 6 ] def " + changesLeft(2).replace("/o 9 array def ", "")
                + "{ o 0 3 getinterval o 2 4 getinterval copy } stopped clear o aload pop", "1 2 3 2 3 6");
        Probe.leaves(changesLeft(2) + "{ 1 2 3 o 0 3 getinterval astore } stopped clear o 0 4 getinterval aload pop",
                "1 2 null null");
        Probe.leaves(changesLeft(2) + "1 2 3 o 0 3 getinterval astore", "1 2 3 [3] error 14");
        Probe.leaves(changesLeft(3) + "1 2 3 o 0 3 getinterval astore length", "3");
        Probe.leaves(changesLeft(2) + "{ [ 7 8 9 ] o copy } stopped clear o 0 4 getinterval aload pop", "7 8 null null");
        Probe.leaves(changesLeft(2) + "{ { 7 8 9 } o copy } stopped clear o 0 4 getinterval aload pop", "null 8 9 null");
        Probe.leaves(changesLeft(3) + "{ 7 8 9 } o copy", "[3]");
        Probe.leaves(changesLeft(2) + "{ 7 8 9 } o copy", "{3} [9] error 14");
        Probe.leaves(changesLeft(2) + "<< 3 33 5 55 1 11 >> d copy", "<3> <3> error 14");
        Probe.leaves(changesLeft(5) + "m currentmatrix", "[6] error 14");
        Probe.leaves(changesLeft(4) + "5 5 translate { m currentmatrix } stopped clear m aload pop",
                "65536u 0u 0u -65536u 0u 0u");
        Probe.leaves(changesLeft(6) + "5 5 translate m currentmatrix aload pop",
                "65536u 0u 0u -65536u 327680u 720896u");
        Probe.leaves(changesLeft(2) + "{ << 3 33 5 55 1 11 >> d copy } stopped clear d 1 get d 3 get d 5 get", "2 33 55");
        Probe.leaves(changesLeft(3) + "<< 3 33 5 55 1 11 >> d copy pop d 1 get d 3 get d 5 get", "11 33 55");
    }

    /** "restore gives back rows, places, bytes, dictionaries, keys and remembered changes .." */
    private static void restoreGivesBack() {
        Probe.leaves("2 { save 16000 { 0 array pop } repeat restore } repeat", "");
        Probe.leaves("2 { save 32000 array pop restore } repeat", "");
        Probe.leaves("2 { save 65000 string pop restore } repeat", "");
        Probe.leaves("2 { save 1000 { 0 dict pop } repeat restore } repeat", "");
        Probe.leaves("2 { save 0 1 15999 { 0 def } for restore } repeat currentdict length", "0");
        Probe.leaves("/a 30000 array def 2 { save 0 1 29999 { a exch 1 put } for restore } repeat a 0 get", "null");
        // Names stay.
        Probe.leaves("/t 8 string def save 0 1 5000 { t cvs cvn pop } for restore { 5001 1 9000 { t cvs cvn pop } for } "
                + "stopped clear lasterror", "14");
        // What came before the save stays counted.
        Probe.leaves("30000 array pop save 2768 array pop restore 2769 array", "2769 error 14");
        Probe.leaves("30000 array pop save 2768 array pop restore 2768 array", "[2768]");
        Probe.leaves("60000 string pop save 5536 string pop restore 5537 string", "5537 error 14");
        Probe.leaves("60000 string pop save 5536 string pop restore 5536 string length", "5536");
        Probe.leaves("16000 { 0 array pop } repeat save 381 { 0 array pop } repeat restore 381 { 0 array pop } repeat", "");
        Probe.leaves("16000 { 0 array pop } repeat save 381 { 0 array pop } repeat restore 382 { 0 array pop } repeat",
                "0 error 14");
        Probe.leaves("1000 { 0 dict pop } repeat save 22 { 0 dict pop } repeat restore 22 { 0 dict pop } repeat 0 dict",
                "0 error 14");
        Probe.leaves("0 1 15999 { 0 def } for save 16000 1 16383 { 0 def } for restore 16000 1 16384 { 0 def } for",
                "16384 0 error 14");
        // Bytes and places that were taken before the save are not given away again.
        Probe.leaves("/t (abcdefgh) def /a [ 1 2 3 ] def save restore 8 string pop 3 array pop t a aload pop",
                "(abcdefgh) 1 2 3");
        Probe.leaves("/t 8 string def t 0 (abcdefgh) putinterval save 5 string pop restore 8 string pop t", "(abcdefgh)");
        // Many keys, all of them changed and back again.
        Probe.leaves("0 1 299 { 7 def } for save 0 1 299 { 8 def } for restore 0 0 1 299 { load add } for", "2100");
    }

    /** "8192 names .. (the operators' not counted)" */
    private static void names() {
        String make = "/t 8 string def 0 1 %1 { t cvs cvn pop } for ";
        Probe.leaves(make.replace("%1", "8190"), "");
        Probe.leaves(make.replace("%1", "8191"), "(8191) error 14");
        String full = make.replace("%1", "8190");
        Probe.leaves(full + "(17) cvn (add) cvn (t) cvn", "/17 /add /t");
        Probe.leaves(full + "(new) cvn", "(new) error 14");
        Probe.leaves(full + "(new) 1 def", "(new) 1 error 14");
        Probe.leaves(full + "(new) 1 store", "(new) 1 error 14");
        Probe.leaves(full + "currentdict (new) 1 put", "<1> (new) 1 error 14");
        Probe.leaves(full + "<< (new) 1 >>", "mark (new) 1 error 14");
        Probe.leaves(full + "(17) 1 def << (18) 2 >> (17) load", "<1> 1");
        Probe.leaves(make.replace("%1", "8189") + "(new) 1 def (new) load", "1");
    }

    /** ".. of 131072 bytes in all" */
    private static void nameBytes() {
        // 1032 names of 127 bytes, and t: seven bytes are left.
        String full = "/t 127 string def 0 1 1031 { t cvs pop t cvn pop } for ";
        Probe.leaves(full + "(1234567) cvn", "/1234567");
        Probe.leaves(full + "(12345678) cvn", "(12345678) error 14");
        Probe.leaves(full + "(1234567) cvn (x) cvn", "/1234567 (x) error 14");
        Probe.leaves(full + "(1234567) cvn pop () cvn (setgray) cvn", "/ /setgray");
        Probe.leaves(full + "(1234567) 1 def (1234567) load", "1");
        Probe.leaves(full + "(12345678) 1 def", "(12345678) 1 error 14");
    }

    /** "8192 names .. (the operators' not counted)": those of type and of fonts are no operators'. */
    private static void namesOfTypes() {
        String full = "/t 8 string def 0 1 %1 { t cvs cvn pop } for ";
        String[] values = {"null", "true", "5", "1.5", "mark", "/t", "(a)", "[ ]", "{ }", "<< >>", "/add load", "save"};
        String[] told = {"null", "true", "5", "98304u", "mark", "/t", "(a)", "[0]", "{0}", "<0>", "--add--", "save1"};
        for (int i = 0; i < values.length; i++) {
            Probe.leaves(full.replace("%1", "8190") + values[i] + " type", told[i] + " error 14");
            Probe.leaves(full.replace("%1", "8189") + values[i] + " type xcheck", "true");
        }
        // Two values of one type have one name; the next one finds no room.
        Probe.leaves(full.replace("%1", "8189") + "5 type 6 type eq 1.5 type", "true 98304u error 14");
        // A name that the tape, or a text, has made is there.
        Probe.leaves(full.replace("%1", "8189") + "5 type /integertype", "integertype /integertype");
        Probe.leaves(full.replace("%1", "8189") + "(integertype) cvn 5 type eq", "true");
        Probe.leaves(full.replace("%1", "8190") + "(FontMatrix) cvn", "(FontMatrix) error 14");
        Probe.leaves(full.replace("%1", "8190") + "(integertype) 1 def", "(integertype) 1 error 14");
        Probe.leaves(full.replace("%1", "8190") + "currentdict (integertype) known", "false");
        // They count by their bytes as well: seven are left.
        String bytes = "/t 127 string def 0 1 1031 { t cvs pop t cvn pop } for ";
        Probe.leaves(bytes + "5 type", "5 error 14");
        Probe.leaves(bytes.replace("1031", "1030") + "5 type", "integertype");
    }

    /** "a name that is not there yet is made by def, put, store and >> alone" */
    private static void namesThatAreNotMade() {
        String some = "/t 8 string def 0 1 8190 { t cvs cvn pop } for ";
        Probe.leaves(some + "currentdict (new) known (new) where", "false false");
        Probe.leaves(some + "(new) load", "(new) error 5");
        Probe.leaves(some + "currentdict (new) get", "<1> (new) error 5");
        Probe.leaves(some + "currentdict (new) undef", "");
        Probe.leaves(some + "(new) findfont", "(new) error 16");
        Probe.leaves(some + "(new) /t eq (t) /t eq", "false true");
    }

    /** "(VM there, also by its names, is fault 9, at place 0, and there is no program)" */
    private static void namesOfTheTape() {
        StringBuilder tape = new StringBuilder();
        for (int n = 0; n < 8192; n++) {
            tape.append('/').append((char) ('A' + n / 676 % 26)).append((char) ('A' + n / 26 % 26))
                    .append((char) ('A' + n % 26));
        }
        Probe p = new Probe();
        Probe.due("8192 names", p.load(tape + " add /sub AAA"), 0);
        Probe.due("8193 names", p.load(tape + " AAAA"), -9);
        Probe.due("at place 0", p.machine.place(), 0);
        Probe.due("no program", p.machine.run(1), -1);
        Probe.due("nothing else", p.machine.depth(0) + p.machine.depth(2), 0);
        Probe.due("the next tape has room again", p.left("/x 5 def x"), "5");
        Probe.due("an empty name is one, too", new Probe().load(tape + " /"), -9);
    }

    /** "load() takes of it for each text of the tape a row and its bytes, for each pair of braces .." */
    private static void rowsOfTheTape() {
        Probe.due("16384 texts", new Probe(1, 1).load("()".repeat(16384)), 0);
        Probe.leaves("(a) pop 65535 string length", "65535");
        Probe.leaves("(ab) pop 65535 string", "65535 error 14");
        Probe.leaves("{ 1 (a) 3 } pop 32765 array length", "32765");
        Probe.leaves("{ 1 (a) 3 } pop 32766 array", "32766 error 14");
        Probe.leaves("{ { 1 } 2 } pop 32765 array length", "32765");
        Probe.leaves("{ { 1 } 2 } pop 32766 array", "32766 error 14");
        Probe.leaves("16383 { 0 array pop } repeat", "");
        Probe.leaves("16383 { 0 array pop } repeat ()", "0 error 14");
        Probe.leaves("16384 { 0 array pop } repeat", "0 error 14");
        // In the order of their ends: inner rows lie before outer ones, so what is read first matters.
        Probe.leaves("{ 1 { 2 3 } 4 } dup 0 3 -1 roll 1 get putinterval", "");
        // "a row of the tape is made once"
        Probe.leaves("/p { (a) } def p 0 90 put p p eq { 1 } { 2 } 2 copy eq", "true {1} {1} false");
        Probe.leaves("{ { } } 3 { dup 0 get exch } repeat pop eq exch pop", "true");
    }
}
