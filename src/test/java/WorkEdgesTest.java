/** WORK, of part 3: for each operator the last piece of work that is taken, and one too many. */
public final class WorkEdgesTest {
    private static final int ALL = 40000000;
    private static final String PATH = "1 1 moveto 5 1 lineto 5 9 1 9 3 3 curveto ";
    private static final String FONT = "<< /FontMatrix [ 1 0 0 1 0 0 ] /BuildGlyph { pop pop } >> setfont ";
    private static final int FONT_WORK = 10;

    public static void main(String[] args) {
        painting();
        graphics();
        paths();
        showing();
        texts();
        copying();
        writing();
        making();
        dictionaries();
        free();
        order();
        whatIsCounted();
        Probe.finish();
    }

    /** What is refused as RANGE counts all the same: so much work is done with one operator. */
    private static String spend(int work) {
        return "{ " + work + " string } stopped pop pop ";
    }

    /** An operator behind what has done so much work takes as much work as is told, and no less. */
    private static void costs(String before, int spent, String operator, int work) {
        String program = before + spend(ALL - spent - work) + operator;
        Probe.due("state behind " + program, new Probe().run(program), 0);
        if (work > 0) {
            program = before + spend(ALL - spent - work + 1) + operator;
            Probe p = new Probe();
            Probe.due("state behind " + program, p.run(program), 2);
            Probe.due("error behind " + program, p.machine.error(), 12);
        }
    }

    /** "fill, eofill, clip, eoclip: rows of the page, times (64 and the parts of the path ..)" */
    private static void painting() {
        for (String op : new String[] {"fill", "eofill", "clip", "eoclip"}) {
            costs("", 0, op, 16 * 64);
            costs(PATH, 0, op, 16 * 67);
            costs(PATH + "closepath ", 0, op, 16 * 68);
        }
        costs("", 0, "stroke", 16 * 64);
        costs(PATH, 0, "stroke", 16 * (64 + 3 * 16));
        costs(PATH, 0, "erasepage", 16 * 64);
        costs(PATH, 0, "initclip", 16);
        // Rows of the page, not of what is painted, nor columns.
        Probe p = new Probe(5, 200);
        Probe.due("fill of 200 rows", p.run(spend(ALL - 200 * 64) + "fill"), 0);
        Probe.due("one more", p.run(spend(ALL - 200 * 64 + 1) + "fill"), 2);
        Probe.due("initclip of 200 rows", p.run(spend(ALL - 200) + "initclip"), 0);
        Probe.due("one more", p.run(spend(ALL - 199) + "initclip"), 2);
    }

    /** "gsave, grestore, save ..: the parts of the path that there is" */
    private static void graphics() {
        for (String op : new String[] {"gsave", "grestore", "save"}) {
            costs("", 0, op, 0);
            costs(PATH, 0, op, 3);
        }
        costs("gsave " + PATH, 0, "grestore", 3);
        costs(PATH + "gsave newpath ", 3, "grestore", 0);
        costs(PATH + "save ", 3, "restore", 0);
    }

    /** ".. flattenpath, reversepath, pathbbox" */
    private static void paths() {
        costs("", 0, "flattenpath", 0);
        costs(PATH, 0, "flattenpath", 3);
        costs("", 0, "reversepath", 0);
        costs(PATH, 0, "reversepath", 3);
        costs(PATH, 0, "pathbbox", 3);
        Probe.leaves(spend(ALL) + "pathbbox", "error 13");
    }

    /** "show: the bytes, times (1 and the parts of the path)" */
    private static void showing() {
        costs(FONT + PATH, FONT_WORK, "(ab) show", 8);
        costs(FONT + "1 1 moveto ", FONT_WORK, "(abc) show", 6);
        costs(FONT + PATH, FONT_WORK, "() show", 0);
    }

    /** "search, anchorsearch: the bytes of both, multiplied; eq ne gt ge lt le of two texts: .." */
    private static void texts() {
        costs("(abcd) (bcx) ", 0, "search", 12);
        costs("(abcd) (bcx) ", 0, "anchorsearch", 12);
        costs("(abcd) () ", 0, "search", 0);
        for (String op : new String[] {"eq", "ne", "gt", "ge", "lt", "le"}) {
            costs("(abcd) (xbc) ", 0, op, 7);
            costs("() () ", 0, op, 0);
            costs("1 2 ", 0, op, 0);
        }
        costs("(abcd) /abcd ", 0, "eq", 0);
        costs("/abcd /abcd ", 0, "ne", 0);
    }

    /** "copy of rows or dictionaries, putinterval ..: of what is copied" */
    private static void copying() {
        costs("[ 1 2 3 ] 5 array ", 8, "copy", 3);
        costs("{ 1 2 3 } 5 array ", 5, "copy", 3);
        costs("(abc) (defgh) ", 0, "copy", 3);
        costs("<< 1 2 3 4 >> << 5 6 >> ", 6, "copy", 2);
        costs("<< 1 2 3 4 >> dup 1 undef << 5 6 >> ", 6, "copy", 1);
        costs("1 2 3 ", 0, "3 copy", 0);
        costs("(abcde) ", 0, "1 (xyz) putinterval", 3);
        costs("[ 1 2 3 ] ", 3, "1 { 5 } putinterval", 1);
        costs("(abcde) ", 0, "5 () putinterval", 0);
    }

    /** "=, print, cvs: .. of what is written" */
    private static void writing() {
        String[] written = {"12", "-12", "1.5", "-1.5", "true", "false", "/abc", "(abcd)", "/add load", "null",
            "mark", "()"};
        int[] bytes = {2, 3, 7, 8, 4, 5, 3, 4, 3, 15, 15, 0};
        for (int i = 0; i < written.length; i++) {
            costs(written[i] + " ", 0, "=", bytes[i]);
            costs(written[i] + " (xxxxxxxxxxxxxxxxxxxx) ", 0, "cvs", bytes[i]);
        }
        costs("(abc) ", 0, "print", 3);
        costs("() ", 0, "print", 0);
    }

    /** "array, string: n (nothing below 0); ] and >>: the values above the mark; aload, astore: .." */
    private static void making() {
        costs("7 ", 0, "array", 7);
        costs("7 ", 0, "string", 7);
        costs("0 ", 0, "array", 0);
        Probe.leaves(spend(ALL) + "-1 array", "-1 error 4");
        Probe.leaves(spend(ALL) + "-2147483648 string", "-2147483648 error 4");
        costs("mark 1 2 3 ", 0, "]", 3);
        costs("mark mark 1 2 3 ", 0, "]", 3);
        costs("mark ", 0, "]", 0);
        costs("mark 1 2 3 4 ", 0, ">>", 4);
        costs("mark ", 0, ">>", 0);
        costs("{ 1 2 3 } ", 0, "aload", 3);
        costs("1 2 3 3 array ", 3, "astore", 3);
        costs("{ } ", 0, "aload", 0);
        costs("matrix ", 0, "currentmatrix", 0);
        costs("", 0, "matrix", 0);
        costs("5 ", 0, "dict", 0);
    }

    /** "length of a dictionary, scalefont: its keys" */
    private static void dictionaries() {
        costs("<< 1 2 3 4 >> ", 4, "length", 2);
        costs("<< 1 2 3 4 >> dup 1 undef ", 4, "length", 1);
        costs("/add where pop ", 0, "length", 140);
        costs("(abcd) ", 0, "length", 0);
        costs("/abcd ", 0, "length", 0);
        costs("<< /FontMatrix [ 1 0 0 1 0 0 ] /BuildGlyph { } /a 1 >> ", 12, "2 scalefont", 3);
    }

    /** No other operator takes any work. */
    private static void free() {
        costs(FONT + PATH + "/t (abcdef) def /a [ 1 2 3 ] def ", FONT_WORK + 3,
                "1 2 add 3 4 exch pop pop pop t 1 2 getinterval pop t 0 65 put a 0 get a 0 5 put pop "
                + "/k 5 def k pop << >> /k known pop currentdict pop t cvn pop (12) cvi pop "
                + "5 5 lineto 1 1 rlineto 9 9 3 0 90 arc closepath newpath 0.5 setgray currentfont setfont "
                + "[ ] 0 setdash 5 5 transform pop pop 2 2 scale /F currentfont definefont pop /F findfont pop "
                + "a { pop } forall t { pop } forall 5 { } repeat /a where pop pop t type pop clear "
                + "currentdict /a undef 1 2 3 3 1 roll", 0);
    }

    /** "looked at behind its kinds, before all else" */
    private static void order() {
        Probe.leaves("40000000 string", "40000000 error 4");
        Probe.leaves("40000001 string", "40000001 error 12");
        Probe.leaves("40000001 array", "40000001 error 12");
        Probe.leaves("2147483647 array", "2147483647 error 12");
        Probe.leaves(spend(ALL) + "(abc) (d) copy", "(abc) (d) error 12");
        Probe.leaves(spend(ALL) + "{ 1 } (d) copy", "{1} (d) error 3");
        Probe.leaves(spend(ALL) + "(abc) copy", "(abc) error 1");
        Probe.leaves(spend(ALL) + "1 true copy", "1 true error 3");
        Probe.leaves(spend(ALL) + "/add where pop currentdict copy", "<140> <0> error 12");
        Probe.leaves(spend(ALL) + "(abc) 9 (d) putinterval", "(abc) 9 (d) error 12");
        Probe.leaves(spend(ALL) + "(abc) 9 {} putinterval", "(abc) 9 {0} error 3");
        Probe.leaves(spend(ALL) + "12 (a) cvs", "12 (a) error 12");
        Probe.leaves(spend(ALL) + "12 5 cvs", "12 5 error 3");
        Probe.leaves(PATH + "0 1 scale " + spend(ALL) + "pathbbox", "error 12");
        Probe.leaves(spend(ALL) + "(a) show", "(a) error 12");
        Probe.leaves(spend(ALL) + "1 show", "1 error 3");
        Probe.leaves(spend(ALL) + "() show", "() error 16");
        Probe.leaves(spend(ALL) + "1 ]", "1 error 7");
        Probe.leaves(spend(ALL) + "1 >>", "1 error 7");
        Probe.leaves(spend(ALL) + "mark 1 >>", "mark 1 error 12");
        Probe.leaves(spend(ALL) + "mark null 1 >>", "mark null 1 error 12");
        Probe.leaves(spend(ALL - 5) + "5 array " + "astore", "[5] error 12");
        Probe.leaves(spend(ALL - 10) + "5 array " + "astore", "[5] error 1");
        Probe.leaves(spend(ALL - 2) + "<< 1 2 >> 2 scalefont", "<1> 2 error 12");
        Probe.leaves(spend(ALL - 3) + "<< 1 2 >> 2 scalefont", "<1> 2 error 16");
        Probe.leaves(spend(ALL) + "(a) 1 search", "(a) 1 error 3");
        Probe.leaves(spend(ALL) + "(a) (a) search", "(a) (a) error 12");
        Probe.leaves(spend(ALL) + "(a) 1 lt", "(a) 1 error 3");
        // An aload that would not fit is LIMIT first.
        Probe p = new Probe();
        p.run(spend(ALL - 2) + Probe.full(498) + "{ 1 2 } aload");
        Probe.due("an aload that does not fit", p.machine.error(), 2);
        p.run(spend(ALL - 1) + Probe.full(498) + "{ 1 2 } aload");
        Probe.due("and for which there is no work", p.machine.error(), 12);
    }

    /** "WORK is counted since load()"; "what is counted stays so, also when the operator fails then" */
    private static void whatIsCounted() {
        Probe p = new Probe();
        Probe.due("forty millions", p.run(spend(ALL) + "() ="), 0);
        Probe.due("forty millions again behind load", p.run(spend(ALL) + "() ="), 0);
        Probe.due("one more", p.run(spend(ALL) + "(a) ="), 2);
        Probe.leaves(spend(ALL - 5) + "{ (abc) 2 (xyz) putinterval } stopped clear (ab) print (c) print",
                "(c) error 12");
        Probe.leaves(spend(ALL - 5) + "{ (abc) 2 (xyz) putinterval } stopped clear (ab) print lasterror", "4");
        // What is refused as LIMIT is not counted.
        Probe.leaves(spend(ALL - 5) + "{ (abcdef) print } stopped clear (abcde) print lasterror", "12");
    }
}
