/** save and restore, of part 7, sentence by sentence. */
public final class SaveEdgesTest {
    private static final String FONT = "<< /FontMatrix [ 1 0 0 1 0 0 ] /BuildGlyph { pop pop } >> ";

    public static void main(String[] args) {
        whatIsSaved();
        whatIsNot();
        goneAlready();
        newOnOperands();
        newOnDictionaries();
        newAmongCalls();
        newFonts();
        oldIsFine();
        graphicsOfTheSave();
        copiesThatAreGone();
        savedCopiesStay();
        loopsOverKeysThatGo();
        numbersOfSaves();
        fontsGoBack();
        Probe.finish();
    }

    /** "save: a SAVE of all places and keys"; "else places and keys are as they were, what came since is gone" */
    private static void whatIsSaved() {
        Probe.leaves("/a [ 1 2 3 ] def save a 0 7 put a 2 8 put a 0 9 put restore a aload pop", "1 2 3");
        Probe.leaves("/p { 1 2 } def save /p load 1 9 put p 3 -1 roll restore p", "1 9 1 2");
        Probe.leaves("/k 1 def save /k 2 def /k 3 def k exch restore k", "3 1");
        Probe.leaves("/k 1 def save /l 2 def restore currentdict /l known currentdict length", "false 1");
        Probe.leaves("/k 1 def save currentdict /k undef restore k", "1");
        Probe.leaves("/k 1 def save currentdict /k undef /k 5 def restore k", "1");
        Probe.leaves("/d << 1 2 3 4 >> def save d 1 undef d 5 6 put d 3 9 put restore d { } forall", "1 2 3 4");
        Probe.leaves("/d << 1 2 >> def d 1 undef save d 1 5 put restore d length d 1 known", "0 false");
        // A key that comes again behind restore comes last.
        Probe.leaves("/d << /a 1 >> def save d /b 2 put restore d /c 3 put d /b 4 put d { pop } forall", "/a /c /b");
        // Of two saves each has its own.
        Probe.leaves("/a [ 1 ] def save a 0 2 put save a 0 3 put restore a 0 get exch restore a 0 get", "2 1");
        Probe.leaves("/a [ 1 ] def save save pop a 0 3 put restore a 0 get", "1");
        Probe.leaves("/a [ 1 ] def save a 0 2 put save pop a 0 3 put restore a 0 get", "1");
        Probe.leaves("/a [ 1 ] def save save a 0 3 put restore a 0 4 put restore a 0 get", "1");
        // New rows that old places hold are gone with their places.
        Probe.leaves("/a [ 1 ] def save a 0 [ 7 8 ] put restore a 0 get", "1");
        Probe.leaves("/k 5 def save /k << 1 2 >> def restore k", "5");
    }

    /** "(not of bytes)"; "(A name's bytes, the tape's rows stay ..)" */
    private static void whatIsNot() {
        Probe.leaves("/t (abc) def save t 0 120 put restore t", "(xbc)");
        Probe.leaves("save (new) cvn exch restore", "/new");
        Probe.leaves("save (abc) exch restore", "(abc)");
        Probe.leaves("save { 1 } exch restore exec", "1");
        Probe.leaves("save { (abc) } exch restore exec", "(abc)");
        Probe.leaves("save 1 1.5 true null mark /x /add load 8 7 roll restore", "1 98304u true null mark /x --add--");
    }

    /** "INVALID RESTORE when it is gone already" */
    private static void goneAlready() {
        Probe.leaves("save dup restore restore", "save1 error 15");
        Probe.leaves("save save exch restore restore", "save2 error 15");
        Probe.leaves("save save save 3 -1 roll pop exch restore restore", "save3 error 15");
        Probe.leaves("save save restore restore save", "save3");
        Probe.leaves("save save dup restore exch restore restore", "save2 error 15");
        Probe.leaves("save dup restore save pop restore", "save1 error 15");
    }

    /** ".. or when a row or dictionary that came behind it is on the operands" */
    private static void newOnOperands() {
        String[] newer = {"[ 1 ]", "0 array", "0 string", "[ 1 ] cvx", "<< >>", "0 dict", "(ab) 0 1 getinterval",
            "{ 1 } 0 1 getinterval", "12 (xx) cvs", "matrix", "(ab) (xy) copy"};
        for (String made : newer) {
            Probe.leaves("save " + made + " pop restore", "");
            Probe p = new Probe();
            Probe.due("restore above " + made, p.run("save " + made + " exch restore"), 2);
            Probe.due("is refused above " + made, p.machine.error(), 15);
            Probe.due("and there still", p.machine.depth(0), 2);
            Probe.due("restore below " + made, p.run("/s save def 1 " + made + " 2 s restore"), 2);
            Probe.due("is refused below " + made, p.machine.error(), 15);
            Probe.due("old " + made, p.run(made + " save restore"), 0);
        }
        // What is older than this save, though newer than another one.
        Probe.leaves("save [ 1 ] save restore", "save1 [1]");
        Probe.leaves("/s save def [ 1 ] save pop s restore", "[1] save1 error 15");
    }

    /** ".. or THE DICTIONARIES" */
    private static void newOnDictionaries() {
        Probe.leaves("/d 0 dict def save d begin restore countdictstack", "3");
        Probe.leaves("save 0 dict begin restore", "save1 error 15");
        Probe.leaves("save 0 dict begin end restore", "");
        Probe.leaves("save 0 dict begin currentdict end begin 0 dict begin end restore", "save1 error 15");
        Probe.leaves("/s save def /add where pop begin s restore countdictstack", "3");
    }

    /** ".. or among THE CALLS" */
    private static void newAmongCalls() {
        String s = "/s save def ";
        Probe.leaves(s + "[ /s load /restore cvx 1 ] cvx exec", "save1 error 15");
        Probe.leaves(s + "[ /s load /restore cvx ] cvx exec", "");
        Probe.leaves(s + "{ s restore 1 } exec", "1");
        Probe.leaves(s + "[ 1 ] { pop s restore } forall", "save1 error 15");
        Probe.leaves(s + "{ 1 } { pop s restore } forall", "");
        Probe.leaves(s + "2 string { pop s restore } forall", "save1 error 15");
        Probe.leaves(s + "(a) { pop s restore } forall", "");
        Probe.leaves(s + "<< 1 2 >> { pop pop s restore } forall", "save1 error 15");
        Probe.leaves("/d << 1 2 >> def " + s + "d { pop pop s restore } forall", "");
        Probe.leaves(s + "1 [ /s load /restore cvx ] cvx repeat", "save1 error 15");
        Probe.leaves(s + "1 1 1 [ /pop cvx /s load /restore cvx ] cvx for", "save1 error 15");
        Probe.leaves(s + "[ /s load /restore cvx /exit cvx ] cvx loop", "save1 error 15");
        Probe.leaves(s + "1 { s restore } repeat", "");
        Probe.leaves(s + "{ s restore } stopped", "false");
        // What was called there before is none of THE CALLS any more.
        Probe.leaves(s + "[ 1 /pop load 2 /pop load ] cvx exec { s restore } stopped 5", "false 5");
        Probe.leaves(s + "[ 1 ] { pop } forall { s restore } stopped 5", "false 5");
        Probe.leaves(s + "[ 1 ] { pop exit } forall { s restore } stopped 1 { 5 } repeat", "false 5");
        Probe.leaves(s + "1 [ 1 /pop load ] cvx repeat { s restore exit } loop 5", "5");
        Probe.leaves(s + "2 string { pop } forall 1 1 1 { pop s restore } for 5", "5");
        Probe.leaves("<< /FontMatrix [ 1 0 0 1 0 0 ] /BuildGlyph { pop pop s restore } >> setfont 0 0 moveto " + s
                + "[ 1 /pop load 2 /pop load ] cvx exec (a) show 5", "5");
        // The text and the font of a show.
        String glyph = "<< /FontMatrix [ 1 0 0 1 0 0 ] /BuildGlyph { pop pop s restore } >> setfont 0 0 moveto ";
        Probe.leaves(glyph + s + "(a) show", "");
        Probe.leaves(glyph + s + "(a) dup length string copy show", "save1 error 15");
    }

    /** ".. or a font of the graphics (also of those that are saved)" */
    private static void newFonts() {
        Probe.leaves("save " + FONT + "setfont restore", "save1 error 15");
        Probe.leaves("save gsave " + FONT + "setfont gsave " + FONT + "pop restore", "save1 error 15");
        Probe.leaves("/f " + FONT + "def save " + FONT + "setfont gsave f setfont restore", "save1 error 15");
        Probe.leaves("/f " + FONT + "def save " + FONT + "setfont f setfont restore", "");
        Probe.leaves("save gsave " + FONT + "setfont grestore restore", "");
        // On the lowest copy of the pile, where that of the save is gone by a glyph's end.
        String glyph = "/f << /FontMatrix [ 1 0 0 1 0 0 ] /BuildGlyph { pop pop /s save def } >> def f setfont 0 0 moveto "
                + "(x) show ";
        Probe.leaves(glyph + FONT + "setfont gsave f setfont s restore", "save1 error 15");
        Probe.leaves(glyph + FONT + "setfont gsave f setfont grestore f setfont s restore", "");
        Probe.leaves(FONT + "setfont save restore currentfont", "<2>");
    }

    private static void oldIsFine() {
        Probe.leaves("(a) [ 1 ] { 1 } << >> save restore", "(a) [1] {1} <0>");
        Probe.leaves("(a) 0 1 getinterval save restore", "(a)");
        Probe.leaves("/f " + FONT + "def save f setfont restore currentfont", "null");
    }

    /** "the graphics are those of the save's copy, if it is on the pile still: that and those above it go" */
    private static void graphicsOfTheSave() {
        Probe.leaves("0.5 setgray 3 setlinewidth save 0.25 setgray 1 setlinewidth restore currentgray currentlinewidth",
                "32768u 196608u");
        Probe.leaves("1 1 moveto save newpath 5 5 scale restore currentpoint", "65536u 65536u");
        Probe.leaves("1 1 moveto save gsave gsave 5 5 lineto restore currentpoint", "65536u 65536u");
        Probe.depthIs("gsave gsave save gsave gsave restore", 3, 2);
        Probe.depthIs("save restore", 3, 0);
        Probe.depthIs("save save exch restore", 3, 0);
        Probe.depthIs("save save restore", 3, 1);
        Probe.depthIs("1 1 moveto 5 1 lineto save newpath restore", 4, 2);
        Probe.depthIs("0 0 moveto 8 0 lineto 8 8 lineto save clip newpath restore", 5, 256);
        Probe.depthIs("0 0 moveto 0 8 lineto 8 8 lineto 8 0 lineto clip save initclip restore", 5, 64);
    }

    /** A glyph's end takes the copy of a save away, but not the save: the graphics stay then. */
    private static void copiesThatAreGone() {
        String glyph = "/a [ 1 ] def /o [ 0 ] def << /FontMatrix [ 1 0 0 1 0 0 ] /BuildGlyph { pop pop /s save def } >> "
                + "setfont 0 0 moveto (x) show ";
        Probe.leaves(glyph + "a 0 2 put 0.5 setgray s restore a 0 get currentgray", "1 32768u");
        Probe.depthIs(glyph + "gsave gsave s restore", 3, 2);
        Probe.depthIs(glyph + "s restore", 3, 0);
    }

    /** "grestore ..; one that save has put there is gone back to, but stays" (part 9) */
    private static void savedCopiesStay() {
        Probe.depthIs("save grestore grestore", 3, 1);
        Probe.depthIs("gsave save gsave 5 { grestore } repeat", 3, 2);
        Probe.leaves("0.5 setgray save 0.25 setgray grestore currentgray 0.75 setgray grestore currentgray",
                "save1 32768u 32768u");
        Probe.leaves("1 1 moveto save pop newpath grestore currentpoint 5 5 lineto grestore currentpoint",
                "65536u 65536u 65536u 65536u");
        Probe.leaves("0.5 setgray save 0.25 setgray grestore 0.75 setgray restore currentgray", "32768u");
        // A stripe of 128 runs in each of so many rows: the copy and the clip have 93 rows each.
        String stripes = "0 2 254 { 0 moveto 0 %1 rlineto 1 0 rlineto 0 -%1 rlineto closepath } for clip newpath ";
        Probe wide = new Probe(256, 256);
        Probe.due("the save's copy and the clip", wide.run(stripes.replace("%1", "93") + "save initclip grestore"), 0);
        Probe.due("pixels", wide.machine.depth(5), 93 * 128);
    }

    /** "a forall whose latest key is no key any more is at its end" */
    private static void loopsOverKeysThatGo() {
        String d = "/d << /a 1 >> def /s save def ";
        Probe.leaves(d + "d /b 2 put d { pop /b eq { s restore d /c 3 put d /e 4 put } if } forall d length", "3");
        Probe.leaves(d + "d /b 2 put d { pop dup /b eq { s restore d /c 3 put } if } forall", "/a /b");
        Probe.leaves(d + "d /b 2 put d { pop dup /a eq { s restore d /c 3 put } if } forall", "/a /c");
        Probe.leaves(d + "d { pop dup /a eq { d /a undef s restore d /c 3 put } if } forall", "/a /c");
        // The next loop over a dictionary is not at its end.
        Probe.leaves(d + "d /b 2 put d { pop /b eq { s restore } if } forall d { } forall 5", "/a 1 5");
        // A key that is gone by undef is one to go on from.
        Probe.leaves("/d << /a 1 /b 2 >> def d { pop d /a undef } forall", "/a /b");
    }

    private static void numbersOfSaves() {
        Probe.leaves("save save save", "save1 save2 save3");
        Probe.leaves("save restore save restore save", "save3");
        Probe p = new Probe();
        p.run("save save");
        Probe.due("from 1 since load()", p.left("save"), "save1");
    }

    private static void fontsGoBack() {
        Probe.leaves("save /F " + FONT + "definefont pop restore /F findfont", "/F error 16");
        Probe.leaves("/F " + FONT + "definefont pop save /F << /a 1 /b 2 /FontMatrix [ 1 0 0 1 0 0 ] /BuildGlyph { } >> "
                + "definefont pop restore /F findfont length", "2");
    }
}
