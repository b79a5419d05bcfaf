/** Part 5: the order in which each operator looks, what it leaves where it fails, and the errors. */
public final class ErrorsTest {
    /** Each operator with a letter for each operand, the lowest one first: see samples. */
    private static final String[] OPERATORS = {
        "add nn", "sub nn", "mul nn", "div nn", "idiv ii", "mod ii", "neg n", "abs n", "ceiling n", "floor n",
        "round n", "truncate n", "sqrt n", "sin n", "cos n", "atan nn", "cvi x", "cvr x", "bitshift ii",
        "exec v", "if bp", "ifelse bpp", "loop p", "repeat ip", "for nnnp", "forall cp", "stopped v",
        "pop v", "exch vv", "dup v", "index i", "roll ii", "eq vv", "ne vv", "type v", "xcheck v", "cvx v",
        "cvlit v", "cvn t", "cvs vt", "= v", "print t", "array i", "string i", "length l",
        "getinterval rii", "aload a", "astore a", "search tt", "anchorsearch tt",
        "dict i", "begin d", "def kv", "store kv", "load k", "known dk", "undef dk", "where k", "restore s",
        "currentmatrix a", "setmatrix a", "translate nn", "scale nn", "rotate n", "concat a",
        "transform nn", "dtransform nn", "itransform nn", "moveto nn", "lineto nn", "curveto nnnnnn",
        "rmoveto nn", "rlineto nn", "rcurveto nnnnnn", "arc nnnnn", "arcn nnnnn",
        "setgray n", "setlinewidth n", "setlinecap i", "setlinejoin i", "setmiterlimit n", "setdash an",
        "setflat n", "definefont kd", "findfont k", "scalefont dn", "setfont d", "show t", "setcharwidth nn"};
    /** Operators without operands, and those whose operands' kinds hang together. */
    private static final String[] OTHERS = {
        "lasterror", "exit", "stop", "quit", "clear", "count", "mark", "[", "<<", "cleartomark", "counttomark",
        "]", "end", "currentdict", "countdictstack", ">>", "save", "matrix", "newpath", "currentpoint",
        "closepath", "flattenpath", "reversepath", "pathbbox", "currentgray", "currentlinewidth", "initclip",
        "gsave", "grestore", "fill", "eofill", "clip", "eoclip", "erasepage", "stroke", "currentfont",
        "and", "or", "xor", "not", "copy", "gt", "ge", "lt", "le", "get", "put", "putinterval"};
    private static final String[] KINDS = {"null", "true", "3", "2.5", "mark", "/nm", "/nm cvx", "(txt)",
        "[ 1 ]", "{ 1 }", "<< >>", "/add load", "save"};
    /** A letter for each one of KINDS, in their order. */
    private static final String KIND_LETTERS = "0b1rmNDtapdos";

    public static void main(String[] args) {
        namesOfSystem();
        tooFew();
        wrongKinds();
        kindsThatHangTogether();
        kindsBeforeAllElse();
        resultsThatFit();
        resultsThatDoNotFit();
        othersBeforeOverflow();
        latestError();
        eachError();
        Probe.finish();
    }

    /** The kinds, by KIND_LETTERS, that a letter of a signature takes. */
    private static String taken(char letter) {
        switch (letter) {
            case 'n': return "1r";
            case 'i': return "1";
            case 'x': return "1rt";
            case 'b': return "b";
            case 'p': return "p";
            case 't': return "t";
            case 'a': return "ap";
            case 'r': return "tap";
            case 'c': return "tapd";
            case 'l': return "tapdND";
            case 'd': return "d";
            case 's': return "s";
            case 'k': return KIND_LETTERS.substring(1);
            default: return KIND_LETTERS;
        }
    }

    private static String sample(char letter) {
        return KINDS[KIND_LETTERS.indexOf(letter == 'v' || letter == 'k' ? '1' : taken(letter).charAt(0))];
    }

    /** "SYSTEM has 140 names: those of the operators .., and true, false, null." */
    private static void namesOfSystem() {
        Probe.due("operators", OPERATORS.length + OTHERS.length, 137);
        for (String operator : OPERATORS) {
            isOperator(operator.substring(0, operator.indexOf(' ')));
        }
        for (String operator : OTHERS) {
            isOperator(operator);
        }
        Probe.leaves("/true load /false load /null load /true where pop length", "true false null 140");
        Probe.leaves("/FontMatrix where /nulltype where /systemdict where", "false false false");
    }

    private static void isOperator(String name) {
        Probe.leaves("(" + name + ") load", "--" + name + "--");
    }

    /** "An operator looks first whether there are as many operands as it takes (STACKUNDERFLOW)" */
    private static void tooFew() {
        for (String operator : OPERATORS) {
            String name = operator.substring(0, operator.indexOf(' '));
            String letters = operator.substring(operator.indexOf(' ') + 1);
            StringBuilder operands = new StringBuilder();
            for (int n = 0; n < letters.length(); n++) {
                fails(operands + name, 1, n);
                // Nor are kinds looked at then.
                if (n > 0) {
                    fails("null ".repeat(n) + name, 1, n);
                }
                operands.append(sample(letters.charAt(letters.length() - 1 - n))).append(' ');
            }
        }
        String[] two = {"and", "or", "xor", "gt", "ge", "lt", "le", "get"};
        for (String name : two) {
            fails(name, 1, 0);
            fails("null " + name, 1, 1);
        }
        fails("not", 1, 0);
        fails("copy", 1, 0);
        fails("null null put", 1, 2);
        fails("null null putinterval", 1, 2);
        fails("1 putinterval", 1, 1);
    }

    private static void fails(String program, int error, int left) {
        Probe p = new Probe();
        Probe.due("state behind " + program, p.run(program), 2);
        Probe.due("error behind " + program, p.machine.error(), error);
        Probe.due("operands behind " + program, p.machine.depth(0), left);
    }

    /** "then at their kinds, from the lowest one on (TYPECHECK)" */
    private static void wrongKinds() {
        for (String operator : OPERATORS) {
            String name = operator.substring(0, operator.indexOf(' '));
            String letters = operator.substring(operator.indexOf(' ') + 1);
            for (int i = 0; i < letters.length(); i++) {
                for (int kind = 0; kind < KINDS.length; kind++) {
                    StringBuilder program = new StringBuilder();
                    for (int j = 0; j < letters.length(); j++) {
                        program.append(j == i ? KINDS[kind] : sample(letters.charAt(j))).append(' ');
                    }
                    boolean isTaken = taken(letters.charAt(i)).indexOf(KIND_LETTERS.charAt(kind)) >= 0;
                    if (!isTaken) {
                        fails(program + name, 3, letters.length());
                    } else {
                        isNoTypeCheck(program + name);
                    }
                }
            }
        }
    }

    private static void isNoTypeCheck(String program) {
        Probe p = new Probe();
        p.load(program);
        p.machine.run(50);
        boolean isText = program.startsWith("(txt)");
        // A text that is no number is TYPECHECK by another rule, and so are some matrices' elements.
        if (p.machine.error() == 3 && !(isText && program.contains("cv"))) {
            Probe.due("no TYPECHECK behind " + program, 3, 0);
        }
    }

    /** Operators that take one kind or another: both operands alike, or the second by the first. */
    private static void kindsThatHangTogether() {
        for (int first = 0; first < KINDS.length; first++) {
            for (int second = 0; second < KINDS.length; second++) {
                char a = KIND_LETTERS.charAt(first);
                char b = KIND_LETTERS.charAt(second);
                String both = KINDS[first] + " " + KINDS[second] + " ";
                boolean areNumbers = "1r".indexOf(a) >= 0 && "1r".indexOf(b) >= 0;
                boolean areRows = "ap".indexOf(a) >= 0 && "ap".indexOf(b) >= 0;
                looksAt(both + "and", a == '1' && b == '1' || a == 'b' && b == 'b');
                looksAt(both + "or", a == '1' && b == '1' || a == 'b' && b == 'b');
                looksAt(both + "xor", a == '1' && b == '1' || a == 'b' && b == 'b');
                looksAt(both + "gt", areNumbers || a == 't' && b == 't');
                looksAt(both + "ge", areNumbers || a == 't' && b == 't');
                looksAt(both + "lt", areNumbers || a == 't' && b == 't');
                looksAt(both + "le", areNumbers || a == 't' && b == 't');
                looksAt(both + "copy", b == '1' || areRows || a == 't' && b == 't' || a == 'd' && b == 'd');
                looksAt(both + "get", "tap".indexOf(a) >= 0 && b == '1' || a == 'd' && b != '0');
                looksAt(both + "7 put", "tap".indexOf(a) >= 0 && b == '1' || a == 'd' && b != '0');
                looksAt(KINDS[first] + " 0 " + KINDS[second] + " put", a != 't' ? "apd".indexOf(a) >= 0 : b == '1');
                looksAt(KINDS[first] + " 0 " + KINDS[second] + " putinterval", areRows || a == 't' && b == 't');
            }
            looksAt(KINDS[first] + " not", "1b".indexOf(KIND_LETTERS.charAt(first)) >= 0);
        }
        fails("(a) 1.0 (b) putinterval", 3, 3);
        fails("(a) (b) (c) putinterval", 3, 3);
    }

    private static void looksAt(String program, boolean isTaken) {
        Probe p = new Probe();
        p.run(program);
        Probe.due("TYPECHECK of " + program, p.machine.error() == 3 ? 1 : 0, isTaken ? 0 : 1);
    }

    /** ".. then at what is said": what is wrong by its kind is told before what is wrong by its size. */
    private static void kindsBeforeAllElse() {
        fails("-1 (a) array", 3, 2);
        fails("-1 5 repeat", 3, 2);
        fails("40000 (a) add", 3, 2);
        fails("40000 null lineto", 3, 2);
        fails("null 40000 lineto", 3, 2);
        fails("(abc) 9 null put", 3, 3);
        fails("(abc) 9 1.0 getinterval", 3, 3);
        fails("(a) 5 cvs", 3, 2);
        fails("[ 1 2 3 4 5 6 7 8 9 ] true setdash", 3, 2);
        fails("[ 1 2 ] null setdash", 3, 2);
        fails("null << >> definefont", 3, 2);
        fails("<< >> null scalefont", 3, 2);
        fails("40000 1 (a) 1 1 arc", 3, 5);
        fails("1 2 3 4 5 null rcurveto", 3, 6);
        fails("null 1 setcharwidth", 3, 2);
    }

    private static int depthBehind(int full, String before, String operator) {
        Probe p = new Probe();
        p.run(before + Probe.full(full) + operator);
        return p.machine.error() == 0 ? p.machine.depth(0) : -p.machine.error();
    }

    /** "last whether its results fit (STACKOVERFLOW)": 500 are there behind it, or 500 before it. */
    private static void resultsThatFit() {
        String[] oneMore = {"count", "mark", "[", "<<", "lasterror", "currentdict", "countdictstack", "matrix",
            "currentgray", "currentlinewidth", "currentfont", "save", "dup"};
        for (String operator : oneMore) {
            Probe.due("fits: " + operator, depthBehind(499, "", operator), 500);
            Probe.due("does not fit: " + operator, depthBehind(500, "", operator), -2);
        }
        String point = "1 1 moveto 5 5 lineto ";
        Probe.due("currentpoint", depthBehind(498, point, "currentpoint"), 500);
        Probe.due("currentpoint", depthBehind(499, point, "currentpoint"), -2);
        Probe.due("pathbbox", depthBehind(496, point, "pathbbox"), 500);
        Probe.due("pathbbox", depthBehind(497, point, "pathbbox"), -2);
        Probe.due("where", depthBehind(498, "", "/add where"), 500);
        Probe.due("where", depthBehind(499, "", "/add where"), -2);
        Probe.due("where of none", depthBehind(499, "", "/nonesuch where"), 500);
        Probe.due("search", depthBehind(496, "", "(abc) (b) search"), 500);
        Probe.due("search", depthBehind(497, "", "(abc) (b) search"), -2);
        Probe.due("search of none", depthBehind(498, "", "(abc) (x) search"), 500);
        Probe.due("anchorsearch", depthBehind(497, "", "(abc) (a) anchorsearch"), 500);
        Probe.due("anchorsearch", depthBehind(498, "", "(abc) (a) anchorsearch"), -2);
        Probe.due("aload", depthBehind(497, "", "{ 1 2 } aload"), 500);
        Probe.due("aload", depthBehind(498, "", "{ 1 2 } aload"), -2);
        Probe.due("aload of none", depthBehind(499, "", "{ } aload"), 500);
        Probe.due("copy", depthBehind(250, "", "250 copy"), 500);
        Probe.due("copy", depthBehind(251, "", "250 copy"), -2);
        Probe.due("copy of none", depthBehind(499, "", "0 copy"), 499);
        Probe.due("counttomark", depthBehind(498, "mark ", "counttomark"), 500);
        Probe.due("counttomark", depthBehind(499, "mark ", "counttomark"), -2);
        Probe.due("index", depthBehind(499, "", "0 index"), 500);
        Probe.due("transform", depthBehind(500, "", "transform"), 500);
    }

    /** The operands of an operator whose results do not fit, above so many others. */
    private static void keeps(int full, String before, String operands, String operator) {
        Probe with = new Probe();
        Probe without = new Probe();
        with.run(before + Probe.full(full) + operands + operator);
        without.run(before + Probe.full(full) + operands);
        Probe.due("overflow of " + operator, with.machine.error(), 2);
        Probe.due("operands of " + operator, with.machine.depth(0), without.machine.depth(0));
        for (int k = 0; k < 4; k++) {
            Probe.due("operand " + k + " of " + operator, with.operand(k), without.operand(k));
        }
    }

    /** "Where it fails, nothing is changed ..: its operands are there as before" */
    private static void resultsThatDoNotFit() {
        keeps(499, "", "/add ", "where");
        keeps(498, "", "(abc) (a) ", "anchorsearch");
        keeps(497, "", "(abc) (b) ", "search");
        keeps(498, "", "(abc) (b) ", "search");
        keeps(498, "", "{ 1 2 } ", "aload");
        keeps(499, "", "{ 1 2 3 } ", "aload");
        keeps(260, "", "250 ", "copy");
        keeps(499, "1 1 moveto ", "", "currentpoint");
        keeps(500, "1 1 moveto ", "", "currentpoint");
        keeps(497, "1 1 moveto ", "", "pathbbox");
        keeps(499, "1 1 moveto ", "", "pathbbox");
        Probe p = new Probe();
        p.run("gsave " + Probe.full(500) + "save");
        Probe.due("no copy of a save that does not fit", p.machine.depth(3), 1);
        p.run("{ " + Probe.full(500) + "save } stopped");
        Probe.due("is told", p.machine.error(), 2);
        // 499 are there, so that a result of two more does not fit, but true does.
        Probe.leaves("16373 { 0 array pop } repeat { " + Probe.full(497) + "(abc) (b) search } stopped clear "
                + "{ (abc) (b) search } stopped clear lasterror", "2");
        Probe.due("a path box", depthBehind(0, "1 1 moveto { " + Probe.full(497) + "pathbbox } stopped ", "count"), 499);
    }

    /** What is said comes before what does not fit. */
    private static void othersBeforeOverflow() {
        Probe.due("currentpoint without one", depthBehind(500, "", "currentpoint"), -13);
        Probe.due("currentpoint without an INVERSE", depthBehind(500, "1 1 moveto 0 1 scale ", "currentpoint"), -6);
        Probe.due("pathbbox without a point", depthBehind(500, "", "pathbbox"), -13);
        Probe.due("counttomark without a mark", depthBehind(500, "", "counttomark"), -7);
        Probe.due("save without room on the pile", depthBehind(500, "12 { gsave } repeat ", "save"), -12);
        Probe.due("copy of too many", depthBehind(300, "", "400 copy"), -1);
        Probe.due("matrix without room", depthBehind(500, "32768 array pop ", "matrix"), -14);
        Probe.due("where of a long text", depthBehind(499, "", "(" + "x".repeat(128) + ") where"), -4);
    }

    /** "lasterror: the latest error's number, 0 at first." */
    private static void latestError() {
        Probe.leaves("lasterror", "0");
        Probe.leaves("{ pop } stopped { nonesuch } stopped lasterror lasterror", "true true 5 5");
        Probe p = new Probe();
        p.run("{ pop } stopped");
        Probe.due("load makes it new", p.left("lasterror"), "0");
    }

    /** The sixteen errors by their numbers. */
    private static void eachError() {
        String[] programs = {"pop", "501 { 1 } repeat", "null neg", "-1 array", "nonesuch", "1 0 div", "]", "end",
            "19 { 1 dict begin } repeat", "/f { f 1 } def f", "exit", "13 { gsave } repeat", "currentpoint",
            "40000 array", "save dup restore restore", "/F findfont"};
        for (int i = 0; i < programs.length; i++) {
            Probe p = new Probe();
            Probe.due(programs[i], p.run(programs[i]), 2);
            Probe.due("error of " + programs[i], p.machine.error(), i + 1);
        }
    }
}
