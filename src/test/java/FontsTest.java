/** Fonts and show, of part 9. */
public final class FontsTest {
    private static final String BOX = "<< /FontMatrix [ 1 0 0 1 0 0 ] /BuildGlyph { exch pop 64 sub dup 0 setcharwidth "
            + "0 0 moveto 1 0 lineto 1 1 lineto 0 1 lineto fill pop } >> ";

    public static void main(String[] args) {
        defining();
        scaling();
        showing();
        leaving();
        failing();
        steps();
        Probe.finish();
    }

    private static void defining() {
        Probe.tells("/F " + BOX + "definefont type = /F findfont length = (F) findfont /F findfont eq =",
                "dicttype 2 true");
        Probe.tells("5 " + BOX + "definefont pop 5.0 findfont length =", "2");
        Probe.tells("/G findfont", "error 16");
        Probe.tells("null " + BOX + "definefont", "error 3");
        Probe.tells("null findfont", "error 3");
        Probe.tells("/F 5 definefont", "error 3");
        Probe.tells("/F << /FontMatrix matrix >> definefont", "error 16");
        Probe.tells("/F << /BuildGlyph { } >> definefont", "error 16");
        Probe.tells("/F << /FontMatrix [ 1 2 ] /BuildGlyph { } >> definefont", "error 16");
        Probe.tells("/F << /FontMatrix [ 1 0 0 1 0 40000 ] /BuildGlyph { } >> definefont", "error 16");
        Probe.tells("/F << /FontMatrix matrix /BuildGlyph [ ] >> definefont", "error 16");
        Probe.tells("(" + "x".repeat(128) + ") << >> definefont", "error 16");
        Probe.tells("(" + "x".repeat(128) + ") " + BOX + "definefont", "error 4");
        Probe.tells("(" + "x".repeat(128) + ") findfont", "error 4");
        Probe.tells("currentfont = " + BOX + "dup setfont currentfont eq =", "--nostringval-- true");
        Probe.tells("<< >> setfont", "error 16");
    }

    private static void scaling() {
        Probe.tells(BOX + "2 scalefont dup length = /FontMatrix get { = } forall",
                "2 2.00000 0.00000 0.00000 2.00000 0.00000 0.00000");
        Probe.tells("/f " + BOX + "def f 3 scalefont pop f /FontMatrix get 0 get =", "1");
        Probe.tells("<< /a 1 /FontMatrix [ 1 2 3 4 5 6 ] /BuildGlyph { } /b 2 >> 2 scalefont { pop = } forall",
                "a FontMatrix BuildGlyph b");
        Probe.tells(BOX + "40000 scalefont", "error 4");
        Probe.tells("<< >> 2 scalefont", "error 16");
        Probe.tells("<< /FontMatrix [ 300 0 0 1 0 0 ] /BuildGlyph { } >> 300 scalefont", "error 4");
        Probe.tells(BOX + "(a) scalefont", "error 3");
    }

    private static void showing() {
        Probe p = new Probe(8, 4);
        p.run(BOX + "setfont 1 1 moveto (ACB) show currentpoint");
        Probe.due("the glyphs", p.row(2), ".##..#..");
        Probe.due("the way", p.machine.numberOf(1), 7 * 65536);
        Probe.due("and down", p.machine.numberOf(0), 65536);
        Probe.due("a beginning alone", p.machine.depth(4), 1);
        Probe.due("the pile", p.machine.depth(3), 0);
        p.run(BOX + "2 scalefont setfont 1 1 moveto (AA) show currentpoint pop");
        Probe.due("glyphs twice as great", p.row(1), ".####...");
        Probe.due("and their way", p.machine.numberOf(0), 5 * 65536);
        p.run("2 2 scale " + BOX + "setfont 0 0 moveto (A) show currentpoint pop");
        Probe.due("scaled by the matrix", p.row(3), "##......");
        Probe.due("a way by the matrix", p.machine.numberOf(0), 65536);
        p.run(BOX + "setfont 1 1 moveto 2 2 lineto () show");
        Probe.due("an empty text leaves the path", p.machine.depth(4), 2);
        p.run(BOX + "setfont 1 1 moveto 2 2 lineto (A) show");
        Probe.due("a subpath begins behind the path", p.machine.depth(4), 3);
        Probe.tells("<< /FontMatrix matrix /BuildGlyph { = type = } >> setfont 0 0 moveto (Az) show",
                "65 dicttype 122 dicttype");
        Probe.tells("<< /FontMatrix matrix /BuildGlyph { pop pop 1 1 setcharwidth 2 3 setcharwidth } >> setfont "
                + "0 0 moveto (a) show currentpoint = =", "3.00000 2.00000");
        Probe.tells("<< /FontMatrix [ 1 0 0 1 5 6 ] /BuildGlyph { pop pop 0 0 moveto currentpoint = = "
                + "matrix currentmatrix 4 get = } >> setfont 2 2 moveto (a) show currentpoint = =",
                "0.00000 0.00000 7.00000 2.00000 2.00000");
    }

    private static void leaving() {
        String font = "<< /FontMatrix matrix /BuildGlyph { pop pop 0.5 setgray % } >> setfont 1 1 moveto ";
        Probe.tells("{ " + font.replace("%", "exit") + " (a) show } loop currentgray = currentpoint = =",
                "0.00000 1.00000 1.00000");
        Probe.tells("{ " + font.replace("%", "stop") + " (ab) show } stopped = currentgray =", "true 0.00000");
        Probe.tells("{ " + font.replace("%", "gsave gsave foo") + " (ab) show } stopped = currentgray =",
                "true 0.00000");
        Probe p = new Probe();
        p.run(font.replace("%", "gsave 0.25 setgray") + " (ab) show currentgray");
        Probe.due("the pile is as before", p.machine.depth(3), 0);
        Probe.due("and the graphics", p.machine.numberOf(0), 0);
        p.run(font.replace("%", "grestore 0.75 setgray") + " (a) show currentgray");
        Probe.due("what is gone back to already", p.machine.numberOf(0), 49152);
        p.run(font.replace("%", "quit") + " (ab) show");
        Probe.due("quit leaves the pile", p.machine.depth(3), 1);
        p.run(font.replace("%", "foo") + " (ab) show");
        Probe.due("so does a failure", p.machine.depth(3), 1);
        p.run("gsave " + font.replace("%", "grestore grestore gsave gsave gsave 0.75 setgray") + " (a) show");
        Probe.due("as deep as before the glyph", p.machine.depth(3), 1);
    }

    private static void failing() {
        Probe.tells("0 0 moveto (a) show", "error 16");
        Probe.tells(BOX + "setfont (a) show", "error 13");
        Probe.tells(BOX + "setfont 0 0 moveto 5 show", "error 3");
        Probe.tells("/f " + BOX + "def f setfont f /FontMatrix undef 0 0 moveto (a) show", "error 16");
        Probe.tells("1 1 setcharwidth", "error 5");
        Probe.tells("40000 1 setcharwidth", "error 5");
        Probe.tells("<< /FontMatrix matrix /BuildGlyph { pop pop 40000 0 setcharwidth } >> setfont "
                + "0 0 moveto (a) show", "error 4");
        Probe.tells("<< /FontMatrix matrix /BuildGlyph { pop /BuildGlyph undef } >> setfont 0 0 moveto "
                + "{ (ab) show } stopped = lasterror =", "true 16");
        Probe.tells("<< /FontMatrix matrix /BuildGlyph { pop pop 9000 0 setcharwidth } >> setfont "
                + "0 0 moveto (a) show", "error 12");
        Probe.tells("<< /FontMatrix [ 9 0 0 9 0 0 ] /BuildGlyph { pop pop 9000 0 setcharwidth } >> setfont "
                + "0 0 moveto (a) show", "error 4");
        // A glyph for which there is no room: those before it are shown, and no copy is left.
        Probe p = new Probe();
        Probe.due("no room for two operands", p.run("<< /FontMatrix matrix /BuildGlyph { pop pop 2 0 setcharwidth 1 } >> "
                + "setfont 0 0 moveto 497 { 1 } repeat (abc) show"), 2);
        Probe.due("overflow", p.machine.error(), 2);
        Probe.due("operands", p.machine.depth(0), 499);
        Probe.due("pile", p.machine.depth(3), 0);
        Probe.due("a pile without room", p.run(BOX + "setfont 0 0 moveto 12 { gsave } repeat (a) show"), 2);
        Probe.due("is LIMIT", p.machine.error(), 12);
        Probe.due("and stays", p.machine.depth(3), 12);
        Probe.due("not for an empty text", p.run(BOX + "setfont 0 0 moveto 12 { gsave } repeat () show"), 0);
        Probe.tells("<< /FontMatrix matrix /BuildGlyph { pop pop 0 0 moveto (a) show } >> setfont 0 0 moveto "
                + "{ (a) show } stopped = lasterror =", "true 12");
    }

    private static void steps() {
        Probe p = new Probe();
        p.load("<< /FontMatrix matrix /BuildGlyph { pop pop } >> setfont 0 0 moveto (ab) show 1");
        p.machine.run(12);
        Probe.due("a call", p.machine.depth(2), 2);
        Probe.due("no glyph yet", p.machine.depth(3), 0);
        p.machine.run(1);
        Probe.due("the glyph's call", p.machine.depth(2), 3);
        Probe.due("its copy", p.machine.depth(3), 1);
        Probe.due("its operands", p.machine.depth(0), 2);
        p.machine.run(2);
        Probe.due("the end of a glyph is no step", p.machine.depth(3), 0);
        Probe.due("show is there", p.machine.depth(2), 2);
        p.machine.run(3);
        Probe.due("the end of show is none either", p.machine.depth(2), 1);
        Probe.due("the last step", p.machine.run(1), 0);
        Probe.due("steps", p.machine.steps(), 12 + 2 * 3 + 1);
    }
}
