/** FONTS and show, of part 9, sentence by sentence. */
public final class ShowEdgesTest {
    private static final String MATRIX = "/FontMatrix [ 1 0 0 1 0 0 ] ";
    private static final String FONT = "<< " + MATRIX + "/BuildGlyph { pop pop } >> ";
    private static final String PLAIN = "[ 1 0 0 1 0 0 ] setmatrix ";

    public static void main(String[] args) {
        definedFonts();
        foundFonts();
        noFonts();
        scaledFonts();
        currentFonts();
        orderOfShow();
        emptyTexts();
        roomForShow();
        roomForBuildGlyph();
        roomOnThePile();
        roomForOperands();
        whatGlyphsGet();
        matrixOfGlyphs();
        ways();
        waysBeyond();
        wayIntoThePath();
        widthsOfGlyphs();
        fontsThatGo();
        leftGlyphs();
        pilesOfGlyphs();
        showInShow();
        stepsOfShow();
        Probe.finish();
    }

    private static String font(String glyph) {
        return "<< " + MATRIX + "/BuildGlyph { " + glyph + " } >> setfont ";
    }

    private static int error(String program) {
        Probe p = new Probe();
        p.run(program);
        return p.machine.error();
    }

    /** "definefont (any value as a key, dictionary): .. and comes back" */
    private static void definedFonts() {
        Probe.leaves("/f " + FONT + "def /F f definefont f eq /F findfont f eq (F) findfont f eq /F cvx findfont f eq",
                "true true true true");
        for (String key : new String[] {"1", "1.5", "true", "mark", "/a", "(a)", "currentdict", "/add load"}) {
            Probe.leaves(key + " " + FONT + "definefont pop " + key + " findfont", "<2>");
        }
        Probe.leaves("1.0 " + FONT + "definefont pop 1 findfont", "<2>");
        Probe.leaves("null " + FONT + "definefont", "null <2> error 3");
        Probe.leaves("null findfont", "null error 3");
        Probe.leaves("/F " + FONT + "definefont pop /F << " + MATRIX + "/BuildGlyph { } /a 1 >> definefont pop /F findfont",
                "<3>");
        String most = "x".repeat(127);
        Probe.leaves("(" + most + ") " + FONT + "definefont pop (" + most + ") findfont", "<2>");
        Probe.leaves("(" + most + "x) " + FONT + "definefont", "(" + most + "x) <2> error 4");
        Probe.leaves("(" + most + "x) << >> definefont", "(" + most + "x) <0> error 16");
        // They are kept in a dictionary of their own, not in those of the program.
        Probe.leaves("/F " + FONT + "definefont pop /F where currentdict length", "false 0");
    }

    /** "findfont (likewise; INVALID FONT if none)" */
    private static void foundFonts() {
        Probe.leaves("/F findfont", "/F error 16");
        Probe.leaves("/F " + FONT + "definefont pop /G findfont", "/G error 16");
        Probe.leaves("1 findfont", "1 error 16");
        Probe p = new Probe();
        p.run("/F " + FONT + "definefont pop");
        Probe.due("load makes all new", p.left("/F findfont"), "/F error 16");
    }

    /** "INVALID FONT if it has no FontMatrix that is a matrix, or no BuildGlyph that is a procedure" */
    private static void noFonts() {
        String[] bad = {"<< >>", "<< /BuildGlyph { } >>", "<< " + MATRIX + ">>", "<< " + MATRIX + "/BuildGlyph [ ] >>",
            "<< " + MATRIX + "/BuildGlyph /pop load >>", "<< " + MATRIX + "/BuildGlyph null >>",
            "<< /FontMatrix [ 1 0 0 1 0 ] /BuildGlyph { } >>", "<< /FontMatrix [ 1 0 0 1 0 0 0 ] /BuildGlyph { } >>",
            "<< /FontMatrix [ 1 0 0 1 0 null ] /BuildGlyph { } >>", "<< /FontMatrix [ 32768 0 0 1 0 0 ] /BuildGlyph { } >>",
            "<< /FontMatrix (abcdef) /BuildGlyph { } >>", "<< /FontMatrix 5 /BuildGlyph { } >>", "/add where pop"};
        for (String font : bad) {
            Probe.due("definefont of " + font, error("/F " + font + " definefont"), 16);
            Probe.due("setfont of " + font, error(font + " setfont"), 16);
            Probe.due("scalefont of " + font, error(font + " 2 scalefont"), 16);
        }
        Probe.due("a procedure is a matrix, too", error("<< /FontMatrix { 1 0 0 1 0 0 } /BuildGlyph { } >> setfont"), 0);
        Probe.due("one of 32767", error("<< /FontMatrix [ 32767 0 0 -32767 0 0 ] /BuildGlyph { } >> setfont"), 0);
        Probe.due("one without INVERSE", error("<< /FontMatrix [ 0 0 0 0 0 0 ] /BuildGlyph { } >> setfont"), 0);
        Probe.leaves("/f " + FONT + "def f setfont f /BuildGlyph undef /F f definefont", "/F <1> error 16");
    }

    /** "scalefont (dictionary x): a new dictionary with all its keys and values, in their order, and then .." */
    private static void scaledFonts() {
        String f = "/f << /a 1 /FontMatrix [ 1 2 3 4 5 6 ] /b 2 /BuildGlyph { } >> def ";
        Probe.leaves(f + "f 2 scalefont /FontMatrix get aload pop",
                "131072u 262144u 393216u 524288u 655360u 786432u");
        Probe.leaves(f + "f 2 scalefont { pop } forall", "/a /FontMatrix /b /BuildGlyph");
        Probe.leaves(f + "f 2 scalefont f eq f 1 scalefont /FontMatrix get f /FontMatrix get eq f /FontMatrix get 0 get",
                "false false 1");
        Probe.leaves(f + "f 2 scalefont /BuildGlyph get f /BuildGlyph get eq", "true");
        Probe.leaves(f + "f 0 scalefont -1 scalefont /FontMatrix get aload pop", "0u 0u 0u 0u 0u 0u");
        Probe.leaves(f + "f -0.5 scalefont /FontMatrix get aload pop",
                "-32768u -65536u -98304u -131072u -163840u -196608u");
        Probe.leaves(f + "f 5461 scalefont length", "4");
        Probe.leaves(f + "f 5462 scalefont", "<4> 5462 error 4");
        Probe.leaves(f + "f 32768 scalefont", "<4> 32768 error 4");
        Probe.leaves(f + "f /c undef f /a undef f 2 scalefont { pop } forall", "/FontMatrix /b /BuildGlyph");
    }

    private static void currentFonts() {
        Probe.leaves("currentfont", "null");
        Probe.leaves(FONT + "dup setfont currentfont eq", "true");
        Probe.leaves("gsave " + FONT + "setfont grestore currentfont", "null");
        // Any dictionary may be one, also USER.
        Probe.leaves("/FontMatrix [ 1 0 0 1 0 0 ] def /BuildGlyph { pop pop 7 } def currentdict setfont currentfont "
                + "currentdict eq 1 1 moveto (a) show", "true 7");
        Probe.leaves(FONT + "setfont gsave << " + MATRIX + "/BuildGlyph { } /a 1 >> setfont currentfont grestore currentfont",
                "<3> <2>");
        Probe p = new Probe();
        p.run(FONT + "setfont");
        Probe.due("load makes all new", p.left("currentfont"), "null");
    }

    /** "show (text): INVALID FONT if there is no font, or it is none any more; NO CURRENT POINT; .." */
    private static void orderOfShow() {
        Probe.leaves("(a) show", "(a) error 16");
        Probe.leaves("() show", "() error 16");
        Probe.leaves("1 1 moveto (a) show", "(a) error 16");
        Probe.leaves(FONT + "setfont (a) show", "(a) error 13");
        Probe.leaves(FONT + "setfont () show", "() error 13");
        Probe.leaves("/f " + FONT + "def f setfont f /FontMatrix undef (a) show", "(a) error 16");
        Probe.leaves("/f " + FONT + "def f setfont f /BuildGlyph 1 put 1 1 moveto () show", "() error 16");
        Probe.leaves("/f " + FONT + "def f setfont f /FontMatrix get 0 null put 1 1 moveto () show", "() error 16");
        Probe.leaves(FONT + "setfont 1 1 moveto /a show", "/a error 3");
        Probe.leaves(FONT + "setfont 1 1 moveto (a) show", "");
    }

    private static void emptyTexts() {
        Probe.leaves(font("1 0 div") + "1 1 moveto 5 5 lineto () show currentpoint", "327680u 327680u");
        Probe.depthIs(font("1 0 div") + "1 1 moveto 5 5 lineto () show", 4, 2);
        Probe.leaves(font("pop pop") + "1 1 moveto 5 5 lineto (a) show currentpoint", "327680u 327680u");
        Probe.depthIs(font("pop pop") + "1 1 moveto 5 5 lineto (a) show", 4, 3);
    }

    private static String deep(int calls, String something) {
        return "/n " + (calls - 2) + " def /f { n 0 eq { " + something
                + " 1 pop } { /n n 1 sub def f 1 pop } ifelse } def f 1 pop";
    }

    /** "EXECSTACKOVERFLOW (also for an empty text). A call on THE CALLS" */
    private static void roomForShow() {
        String set = font("pop pop") + "1 1 moveto ";
        Probe.leaves(set + deep(249, "() show"), "");
        Probe.leaves(set + deep(250, "() show"), "() error 10");
        Probe.leaves(set + deep(248, "(a) show"), "");
        Probe.leaves(set + deep(250, "(a) show"), "(a) error 10");
        Probe.leaves(font("") + "1 1 moveto " + deep(249, "(a) show pop pop"), "");
        Probe.leaves(deep(250, "() show"), "() error 16");
        Probe p = new Probe();
        p.load(set + "(ab) show 1");
        p.machine.run(19);
        Probe.due("tape and show", p.machine.depth(2), 2);
    }

    /** "the font and the byte come on the operands .., and BuildGlyph is called" */
    private static void roomForBuildGlyph() {
        String set = font("pop pop") + "1 1 moveto 2 2 lineto ";
        // They have come where there is no room for that call.
        String program = set + deep(249, "(ab) show");
        Probe.leaves(program, "<2> 97 error 10");
        Probe.depthIs(program, 3, 1);
        Probe.depthIs(program, 4, 0);
        // stop takes the show away, and its gsave is gone back to.
        program = set + "{ " + deep(247, "(ab) show") + " } stopped lasterror";
        Probe.leaves(program, "<2> 97 true 10");
        Probe.depthIs(program, 3, 0);
        Probe.depthIs(program, 4, 2);
        Probe.leaves(set + "{ " + deep(246, "(ab) show") + " } stopped lasterror", "false 0");
        Probe.leaves(font("") + "1 1 moveto { " + deep(247, "(ab) show") + " } stopped", "<2> 97 <2> 98 false");
    }

    /** "gsave (LIMIT there as if show failed, but the bytes before are shown, and it is gone)" */
    private static void roomOnThePile() {
        Probe.leaves(font("pop pop") + "1 1 moveto 11 { gsave } repeat (ab) show", "");
        Probe.due("no room", error(font("pop pop") + "1 1 moveto 12 { gsave } repeat (ab) show"), 12);
        Probe.depthIs(font("pop pop") + "1 1 moveto 12 { gsave } repeat (ab) show", 3, 12);
        Probe.leaves(font("pop pop") + "1 1 moveto 12 { gsave } repeat () show", "");
        // The first glyph leaves a clip of so many runs that the second one finds no room.
        String stripes = PLAIN + "0 2 254 { 0 moveto 0 100 rlineto 1 0 rlineto 0 -100 rlineto closepath } for clip newpath ";
        Probe wide = new Probe(256, 256);
        wide.run(font("pop = grestore " + stripes + "1 0 setcharwidth") + "1 1 moveto (ab) show");
        Probe.due("is refused", wide.machine.error(), 12);
        Probe.due("what the first one wrote", wide.output().length() > 0 ? 1 : 0, 1);
        wide.run(font("pop pop grestore " + stripes + "3 0 setcharwidth") + "1 1 moveto { (ab) show } stopped currentpoint pop");
        Probe.due("the first one is shown", wide.machine.numberOf(0), 4 * 65536);
    }

    /** "the font and the byte come on the operands (both or neither, likewise)" */
    private static void roomForOperands() {
        Probe p = new Probe();
        Probe.due("498", p.run(font("pop pop") + "1 1 moveto " + Probe.full(498) + "(ab) show"), 0);
        Probe.due("all there", p.machine.depth(0), 498);
        Probe.due("499", p.run(font("pop pop") + "1 1 moveto " + Probe.full(499) + "(ab) show"), 2);
        Probe.due("do not fit", p.machine.error(), 2);
        Probe.due("neither came", p.machine.depth(0), 499);
        Probe.due("no copy is left", p.machine.depth(3), 0);
        Probe.due("the second glyph", p.run(font("pop pop 3 0 setcharwidth 7") + "1 1 moveto { " + Probe.full(498)
                + "(ab) show } stopped clear currentpoint pop"), 0);
        Probe.due("finds no room, the first one is shown", p.machine.numberOf(0), 4 * 65536);
    }

    private static void whatGlyphsGet() {
        Probe.leaves(font("exch pop") + "1 1 moveto (\\000A\\377) show", "0 65 255");
        Probe.leaves(font("pop currentfont eq") + "1 1 moveto (A) show", "true");
        Probe.leaves("/t (ab) def " + font("exch pop t 1 120 put") + "1 1 moveto t show", "97 120");
        Probe.leaves(font("pop pop currentpoint") + "1 1 moveto (a) show", "error 13");
        Probe.leaves(font("pop pop currentgray currentlinewidth") + "0.5 setgray 1 1 moveto (a) show", "32768u 65536u");
    }

    /** "THE MATRIX is FontMatrix BEFORE (a b c d of THE MATRIX, and THE POINT as e f), there is no path" */
    private static void matrixOfGlyphs() {
        String tell = "/BuildGlyph { pop pop matrix currentmatrix aload pop } >> setfont ";
        Probe.leaves(PLAIN + "<< /FontMatrix [ 1 2 3 4 5 6 ] " + tell + "10 20 moveto (a) show",
                "65536u 131072u 196608u 262144u 983040u 1703936u");
        Probe.leaves("[ 2 0 0 3 7 7 ] setmatrix << /FontMatrix [ 1 2 3 4 5 6 ] " + tell + "1 1 moveto (a) show",
                "131072u 393216u 393216u 786432u 1245184u 1835008u");
        // A matrix that is none any more is RANGE, and of show, which is gone.
        String wide = "<< /FontMatrix [ 200 0 0 1 0 0 ] /BuildGlyph { pop pop } >> setfont ";
        Probe.due("RANGE", error("[ 200 0 0 1 0 0 ] setmatrix " + wide + "1 1 moveto (a) show"), 4);
        Probe.depthIs("[ 200 0 0 1 0 0 ] setmatrix " + wide + "1 1 moveto { (a) show } stopped", 3, 0);
        Probe.leaves("[ 200 0 0 1 0 0 ] setmatrix " + wide + "1 1 moveto { (a) show } stopped lasterror", "true 4");
        Probe.due("fits", error("[ 163 0 0 1 0 0 ] setmatrix " + wide + "1 1 moveto (a) show"), 0);
        Probe.due("no empty text", error("[ 200 0 0 1 0 0 ] setmatrix " + wide + "1 1 moveto () show"), 0);
        String far = "<< /FontMatrix [ 1 0 0 1 30000 0 ] /BuildGlyph { pop pop } >> setfont ";
        Probe.due("with THE POINT", error(PLAIN + far + "2767.99998 0 moveto (a) show"), 0);
        Probe.due("beyond reals", error(PLAIN + far + "2768 0 moveto (a) show"), 4);
    }

    /** "moved by FontMatrix and then by THE MATRIX that there was before the glyph, both without e and f" */
    private static void ways() {
        String set = "<< /FontMatrix [ 2 0 0 3 50 60 ] /BuildGlyph { pop pop 4 5 setcharwidth %1 } >> setfont ";
        Probe.leaves(PLAIN + set.replace("%1", "") + "1 2 moveto (a) show currentpoint", "589824u 1114112u");
        Probe.leaves(PLAIN + set.replace("%1", "") + "1 2 moveto (ab) show currentpoint", "1114112u 2097152u");
        Probe.leaves(PLAIN + set.replace("%1", "9 9 scale 5 5 translate") + "1 2 moveto (a) show currentpoint",
                "589824u 1114112u");
        Probe.leaves(PLAIN + set.replace("%1", "3 3 moveto 4 4 lineto") + "1 2 moveto (a) show currentpoint",
                "589824u 1114112u");
        Probe.leaves("[ 2 0 0 4 9 9 ] setmatrix " + set.replace("%1", "") + "1 2 moveto (a) show currentpoint",
                "589824u 1114112u");
        // Each of both is rounded: half a unit by the font, then half of that by THE MATRIX.
        Probe.leaves("[ 0.5 0 0 0.5 0 0 ] setmatrix << /FontMatrix [ 0.5 0 0 0.5 0 0 ] /BuildGlyph { pop pop "
                + "0.00001525878 -0.00001525878 setcharwidth } >> setfont 0 0 moveto (a) show " + PLAIN + "currentpoint",
                "1u 0u");
        // Also where the matrix below is changed by a glyph that has gone back already.
        Probe.leaves(PLAIN + set.replace("%1", "grestore 2 2 scale") + "1 2 moveto (a) show " + PLAIN + "currentpoint",
                "589824u 1114112u");
    }

    /** "(as by moveto; an error there .. is that of show, which is gone)" */
    private static void waysBeyond() {
        String set = PLAIN + font("pop pop %1 0 setcharwidth");
        Probe.due("the last place", error(set.replace("%1", "8092") + "100 0 moveto (a) show"), 0);
        Probe.due("LIMIT", error(set.replace("%1", "8092.00002") + "100 0 moveto (a) show"), 12);
        Probe.leaves(set.replace("%1", "8092.00002") + "100 0 moveto { (ab) show 5 } stopped lasterror currentpoint",
                "true 12 6553600u 0u");
        String twice = PLAIN + "<< /FontMatrix [ 2 0 0 2 0 0 ] /BuildGlyph { pop pop %1 0 setcharwidth } >> setfont ";
        Probe.due("a way that is no real", error(twice.replace("%1", "16384") + "0 0 moveto (a) show"), 4);
        Probe.due("also where THE MATRIX would make one of it", error(twice.replace("%1", "16384")
                .replace(PLAIN, "[ 0.25 0 0 0.25 0 0 ] setmatrix ") + "0 0 moveto (a) show"), 4);
        Probe.due("and upwards", error(twice.replace("%1 0", "0 16384")
                .replace(PLAIN, "[ 0.25 0 0 0.25 0 0 ] setmatrix ") + "0 0 moveto (a) show"), 4);
        Probe.due("no more than that", error(twice.replace("%1", "16383.99998")
                .replace(PLAIN, "[ 0.25 0 0 0.25 0 0 ] setmatrix ") + "0 0 moveto (a) show"), 0);
        Probe.due("a real that is no place", error(twice.replace("%1", "16383.9") + "0 0 moveto (a) show"), 12);
        Probe.due("no real by THE MATRIX", error("[ 2 0 0 2 0 0 ] setmatrix " + font("pop pop 16384 0 setcharwidth")
                + "0 0 moveto (a) show"), 4);
        Probe.depthIs(set.replace("%1", "9000") + "100 0 moveto (a) show", 3, 0);
        Probe.depthIs(set.replace("%1", "9000") + "100 0 moveto { (a) show } stopped", 2, 0);
    }

    /** "and a subpath begins at THE POINT that there was before the glyph, and the way (as by moveto ..)" */
    private static void wayIntoThePath() {
        String set = PLAIN + font("pop pop 1 0 setcharwidth");
        Probe.depthIs(set + "0 0 moveto (abc) show", 4, 1);
        Probe.depthIs(set + "0 0 moveto 1 1 lineto (abc) show", 4, 3);
        Probe.depthIs(set + "0 0 moveto 1 1 lineto closepath (abc) show", 4, 4);
        Probe.leaves(set + "3 4 moveto 1 1 lineto closepath (abc) show currentpoint", "393216u 262144u");
        String lines = "0 0 moveto %1 { 1 1 lineto } repeat ";
        Probe.due("the 3000th part", error(set + lines.replace("%1", "2998") + "(a) show"), 0);
        Probe.due("the 3001st part", error(set + lines.replace("%1", "2999") + "(a) show"), 12);
        Probe.due("one of many bytes", error(set + lines.replace("%1", "2998") + "(abc) show"), 0);
        Probe.depthIs(set + lines.replace("%1", "2999") + "(a) show", 4, 3000);
    }

    /** "the width that setcharwidth (UNDEFINED when no glyph is under way; x y) has set last for this glyph" */
    private static void widthsOfGlyphs() {
        Probe.leaves("1 1 setcharwidth", "1 1 error 5");
        Probe.leaves("1 1 setcharwidth 7", "1 1 error 5");
        Probe.leaves("{ { 1 1 setcharwidth 7 } exec 8 } stopped pop lasterror clear 7", "7");
        Probe.leaves("1 (a) setcharwidth", "1 (a) error 3");
        Probe.leaves("1 setcharwidth", "1 error 1");
        Probe.leaves(font("pop pop") + "1 1 moveto (a) show 1 1 setcharwidth", "1 1 error 5");
        Probe.leaves(PLAIN + font("pop pop") + "1 1 moveto (ab) show currentpoint", "65536u 65536u");
        Probe.leaves(PLAIN + font("pop pop 9 9 setcharwidth 2 3 setcharwidth") + "1 1 moveto (a) show currentpoint",
                "196608u 262144u");
        // For this glyph: the next one has 0 0 at first.
        Probe.leaves(PLAIN + font("exch pop 97 eq { 2 3 setcharwidth } if") + "1 1 moveto (aba) show currentpoint",
                "327680u 458752u");
        Probe.due("no real", error(font("pop pop 32768 0 setcharwidth") + "1 1 moveto (a) show"), 4);
        Probe.due("no real", error(font("pop pop 0 -32768 setcharwidth") + "1 1 moveto (a) show"), 4);
        Probe.leaves(PLAIN + font("pop pop -2 -3 setcharwidth") + "1 1 moveto (a) show currentpoint", "-65536u -131072u");
        Probe.leaves(PLAIN + font("pop pop { 2 3 setcharwidth } stopped pop") + "1 1 moveto (a) show currentpoint",
                "196608u 262144u");
    }

    /** ".. or where the font is none any more" */
    private static void fontsThatGo() {
        Probe.leaves("/f << " + MATRIX + "/BuildGlyph { pop pop 7 f /FontMatrix undef } >> def f setfont 1 1 moveto "
                + "{ (ab) show } stopped lasterror", "7 true 16");
        Probe.leaves("/f << " + MATRIX + "/BuildGlyph { pop pop f /BuildGlyph [ ] put } >> def f setfont 1 1 moveto "
                + "{ (a) show } stopped lasterror", "true 16");
        // Another matrix, another procedure from then on.
        Probe.leaves(PLAIN + "/f << " + MATRIX + "/BuildGlyph { pop pop 1 0 setcharwidth f /FontMatrix [ 3 0 0 3 0 0 ] put } >> "
                + "def f setfont 0 0 moveto (ab) show currentpoint", "393216u 0u");
        Probe.leaves("/f << " + MATRIX + "/BuildGlyph { pop pop 7 f /BuildGlyph { pop pop 8 } put } >> def f setfont "
                + "0 0 moveto (abc) show", "7 8 8");
    }

    /** "Where exit or stop takes a show away .. its gsave is gone back to" */
    private static void leftGlyphs() {
        String exit = font("pop pop 0.5 setgray 5 5 moveto 7 exit");
        Probe.leaves("{ " + exit + "1 1 moveto (ab) show } loop currentgray currentpoint", "7 0u 65536u 65536u");
        Probe.depthIs("{ " + exit + "1 1 moveto (ab) show } loop", 3, 0);
        String stop = font("pop pop 0.5 setgray gsave gsave stop");
        Probe.leaves("{ " + stop + "1 1 moveto (ab) show } stopped currentgray currentpoint", "true 0u 65536u 65536u");
        Probe.depthIs("gsave { " + stop + "1 1 moveto (ab) show } stopped", 3, 1);
        String fail = font("pop pop 0.5 setgray 1 0 div");
        Probe.leaves("{ " + fail + "1 1 moveto (ab) show } stopped currentgray", "1 0 true 0u");
        // A loop, or a stopped, within the glyph leaves the show alone.
        Probe.leaves(font("pop pop { exit } loop { stop } stopped pop") + "1 1 moveto (ab) show 5", "5");
        Probe.due("no loop above the show's stopped", error("{ { " + exit + "1 1 moveto (ab) show } stopped pop stop } loop"), 0);
        // quit, and an error that is not caught, change nothing else.
        Probe.depthIs(font("pop pop 0.5 setgray gsave quit") + "1 1 moveto (ab) show", 3, 2);
        Probe.depthIs(font("pop pop 0.5 setgray gsave nonesuch") + "1 1 moveto (ab) show", 3, 2);
    }

    /** "the pile becomes as deep as before it, if it is deeper, with the graphics of the lowest copy that goes" */
    private static void pilesOfGlyphs() {
        Probe.leaves(font("pop pop 0.5 setgray gsave 0.25 setgray gsave") + "1 1 moveto (ab) show currentgray", "0u");
        Probe.depthIs(font("pop pop gsave gsave") + "gsave 1 1 moveto (ab) show", 3, 1);
        // A glyph that has gone back to its copy itself: its graphics stay.
        Probe.leaves(font("pop pop grestore 0.5 setgray") + "1 1 moveto (a) show currentgray", "32768u");
        Probe.depthIs(font("pop pop grestore grestore") + "gsave gsave 1 1 moveto (a) show", 3, 1);
        Probe.leaves(font("pop pop grestore 0.5 setgray gsave 0.25 setgray") + "1 1 moveto (a) show currentgray", "32768u");
        // Also the save's copy that it has put there goes.
        Probe.depthIs(font("pop pop save pop") + "1 1 moveto (a) show", 3, 0);
    }

    private static void showInShow() {
        String inner = "<< " + MATRIX + "/BuildGlyph { pop pop 1 0 setcharwidth } >> ";
        Probe.leaves(PLAIN + "/g " + inner + "def " + font("pop pop 5 0 setcharwidth g setfont 0 0 moveto (xyz) show "
                + "currentpoint pop") + "0 0 moveto (ab) show currentpoint", "196608u 196608u 655360u 0u");
        Probe.leaves(PLAIN + "/g " + inner + "def " + font("pop pop g setfont 0 0 moveto (xyz) show 7 0 setcharwidth")
                + "0 0 moveto (a) show currentpoint", "458752u 0u");
        // Round and round: the pile is full first.
        Probe.due("shows of themselves", error(font("pop pop 0 0 moveto (a) show") + "0 0 moveto (a) show"), 12);
    }

    /** "A step is also due .. before each glyph of show; the end .. of show .. is none." */
    private static void stepsOfShow() {
        Probe p = new Probe();
        String program = "/p { pop pop } def << /FontMatrix matrix /BuildGlyph /p load >> setfont 0 0 moveto %1 show";
        p.run(program.replace("%1", "()"));
        long none = p.machine.steps();
        p.run(program.replace("%1", "(a)"));
        Probe.due("a glyph, and its two values", p.machine.steps(), none + 3);
        p.run(program.replace("%1", "(abc)"));
        Probe.due("three glyphs", p.machine.steps(), none + 9);
        p.load(program.replace("%1", "(abc)") + " 1");
        Probe.due("before the last step", p.machine.run((int) none + 9), 1);
        Probe.due("show is at its end", p.machine.depth(2), 1);
        Probe.due("the last step", p.machine.run(1), 0);
        p.load(program.replace("%1", "(abc)"));
        Probe.due("before the last glyph's last value", p.machine.run((int) none + 8), 1);
        Probe.due("a copy is there", p.machine.depth(3), 1);
        Probe.due("the last value", p.machine.run(1), 0);
        Probe.due("and none", p.machine.depth(3), 0);
    }
}
