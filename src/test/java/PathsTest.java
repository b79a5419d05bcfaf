/** Part 8: matrices and paths. */
public final class PathsTest {
    public static void main(String[] args) {
        matrices();
        movedPoints();
        inverses();
        building();
        relative();
        closing();
        arcs();
        flattening();
        reversing();
        boxes();
        limits();
        Probe.finish();
    }

    private static void matrices() {
        Probe.tells("matrix { = } forall", "1.00000 0.00000 0.00000 1.00000 0.00000 0.00000");
        Probe.tells("6 array currentmatrix { = } forall",
                "1.00000 0.00000 0.00000 -1.00000 0.00000 16.00000");
        Probe.tells("2 3 translate matrix currentmatrix dup 4 get = 5 get =", "2.00000 13.00000");
        Probe.tells("2 3 scale 1 1 transform = =", "13.00000 2.00000");
        Probe.tells("90 rotate matrix currentmatrix { = } forall",
                "0.00000 -1.00000 -1.00000 0.00000 0.00000 16.00000");
        Probe.tells("[ 1 2 3 4 5 6 ] concat matrix currentmatrix { = } forall",
                "1.00000 -2.00000 3.00000 -4.00000 5.00000 10.00000");
        Probe.tells("{ 1 2 3 4 5 6 } setmatrix 1 1 transform = = 1 1 dtransform = =",
                "12.00000 9.00000 6.00000 4.00000");
        Probe.tells("5 array currentmatrix", "error 4");
        Probe.tells("[ 1 2 3 4 5 ] setmatrix", "error 4");
        Probe.tells("[ 1 2 3 4 5 (a) ] setmatrix", "error 3");
        Probe.tells("[ 40000 2 3 4 5 (a) ] setmatrix", "error 3");
        Probe.tells("[ 40000 2 3 4 5 6 ] concat", "error 4");
        Probe.tells("(abcdef) setmatrix", "error 3");
        Probe.tells("200 200 scale 200 200 scale", "error 4");
        Probe.tells("40000 0 translate", "error 4");
        Probe.tells("1 (a) translate", "error 3");
    }

    private static void movedPoints() {
        // The sum is rounded once: two halves of a unit are a unit.
        Probe p = new Probe();
        p.run("[ .00001525878 0 .00001525878 0 0 0 ] setmatrix .5 .5 transform pop .5 0 transform pop");
        Probe.due("two halves", p.machine.numberOf(1), 1);
        Probe.due("one half", p.machine.numberOf(0), 1);
        Probe.tells("[ 30000 0 30000 0 0 0 ] setmatrix 30000 30000 transform", "error 4");
        Probe.tells("[ 32767 0 32767 0 32767 0 ] setmatrix 32767 32767 transform", "error 4");
    }

    private static void inverses() {
        Probe.tells("2 4 scale 1 1 translate 6 8 itransform = =", "1.00000 2.00000");
        Probe.tells("[ 2 0 0 4 1 2 ] setmatrix 5 10 itransform = =", "2.00000 2.00000");
        Probe.tells("0 1 scale 1 1 itransform", "error 6");
        Probe.tells("0.0001 dup scale 1 1 itransform", "error 4");
        Probe.tells("[ 3 0 0 3 1 0 ] setmatrix 1 0 itransform pop =", "0.00000");
        Probe p = new Probe();
        p.run("[ 3 1 1 3 7 -9 ] setmatrix 0 0 itransform");
        Probe.due("(c f - d e) / D in units", p.machine.numberOf(1), -245760);
        Probe.due("(b e - a f) / D in units", p.machine.numberOf(0), 278528);
    }

    private static void building() {
        Probe p = new Probe();
        p.run("1 1 moveto 2 2 moveto 3 3 lineto 1 2 3 4 5 6 curveto");
        Probe.due("a beginning alone gives way", p.machine.depth(4), 3);
        Probe.tells("2 3 moveto currentpoint = =", "3.00000 2.00000");
        Probe.tells("1 2 moveto 5 6 7 8 9 10 curveto currentpoint = =", "10.00000 9.00000");
        Probe.tells("newpath currentpoint", "error 13");
        Probe.tells("1 1 lineto", "error 13");
        Probe.tells("40000 1 lineto", "error 13");
        Probe.tells("1 2 3 4 5 6 curveto", "error 13");
        Probe.tells("1 1 rlineto", "error 13");
        Probe.tells("1 1 rmoveto", "error 13");
        Probe.tells("(a) 1 lineto", "error 3");
        Probe.tells("1 1 moveto 40000 1 lineto", "error 4");
        Probe.tells("8193 0 moveto", "error 12");
        Probe.tells("8192 0 moveto", "");
        Probe.tells("-8192 0 moveto -8192.1 0 lineto", "error 12");
        Probe.tells("0 1 scale 0 0 moveto currentpoint", "error 6");
    }

    private static void relative() {
        Probe.tells("1 2 moveto 3 4 rlineto currentpoint = = 1 1 rmoveto currentpoint = =",
                "6.00000 4.00000 7.00000 5.00000");
        Probe.tells("1 2 moveto 1 1 2 2 3 3 rcurveto currentpoint = =", "5.00000 4.00000");
        Probe.tells("8192 0 moveto 1 0 rlineto", "error 12");
        Probe.tells("0 0 moveto 3 3 scale 20000 0 rlineto", "error 4");
    }

    private static void closing() {
        Probe.tells("1 2 moveto 3 4 lineto closepath currentpoint = =", "2.00000 1.00000");
        Probe p = new Probe();
        p.run("closepath");
        Probe.due("nothing to close", p.machine.depth(4), 0);
        p.run("1 1 moveto 2 2 lineto closepath closepath");
        Probe.due("closed once", p.machine.depth(4), 3);
        p.run("1 1 moveto 2 2 lineto closepath 5 5 lineto");
        Probe.due("a new subpath begins", p.machine.depth(4), 5);
        Probe.tells("1 2 moveto 3 4 lineto closepath 1 1 rlineto closepath currentpoint = =",
                "2.00000 1.00000");
        p.run("1 1 moveto closepath 2 2 moveto");
        Probe.due("a closed beginning is none alone", p.machine.depth(4), 3);
    }

    private static void arcs() {
        Probe p = new Probe();
        p.run("5 5 2 0 360 arc");
        Probe.due("a whole turn", p.machine.depth(4), 5);
        p.run("1 1 moveto 5 5 2 0 90 arc");
        Probe.due("with a line to it", p.machine.depth(4), 3);
        p.run("1 1 moveto 2 2 lineto closepath 5 5 2 0 90 arc");
        Probe.due("behind closing", p.machine.depth(4), 6);
        p.run("5 5 2 45 45 arc");
        Probe.due("no way", p.machine.depth(4), 1);
        p.run("5 5 2 45 44 arc");
        Probe.due("on by a turn", p.machine.depth(4), 6);
        p.run("5 5 2 44 45 arcn");
        Probe.due("back by a turn", p.machine.depth(4), 6);
        Probe.tells("5 5 2 0 90 arc currentpoint = = newpath 5 5 2 90 0 arcn currentpoint = =",
                "7.00000 5.00000 5.00000 7.00000");
        Probe.tells("5 5 2 0 45 arc currentpoint exch = = newpath 5 5 2 0 -45 arcn currentpoint exch = =",
                "6.41425 6.41425 6.41425 3.58582");
        Probe.tells("5 5 2 45 45 arc currentpoint exch = =", "6.41425 6.41425");
        p.run("5 5 2 0 3600 arc");
        Probe.due("ten turns", p.machine.depth(4), 41);
        Probe.tells("5 5 2 0 3601 arc", "error 4");
        Probe.tells("5 5 2 3601 0 arcn", "error 4");
        Probe.tells("5 5 2 720 0 arc currentpoint = =", "5.00000 7.00000");
        Probe.tells("5 5 9000 0 1 arc", "error 12");
        Probe.tells("9000 5 1 0 1 arc", "error 12");
        Probe.tells("9000 5 1 0 4000 arc", "error 4");
        Probe.tells("5 5 40000 0 1 arc", "error 4");
        Probe.tells("5 5 (a) 0 1 arc", "error 3");
        Probe.tells("5 5 -2 0 90 arc currentpoint = =", "3.00000 5.00000");
    }

    private static void flattening() {
        Probe p = new Probe();
        p.run("0 0 moveto 0 4 4 4 4 0 curveto flattenpath");
        Probe.due("parts of the flat curve", p.machine.depth(4), 9);
        p.run("100 setflat 0 0 moveto 0 4 4 4 4 0 curveto flattenpath");
        Probe.due("one line", p.machine.depth(4), 2);
        p.run("0 setflat 0 0 moveto 0 4000 4000 4000 4000 0 curveto flattenpath");
        Probe.due("halved ten times", p.machine.depth(4), 1025);
        Probe.tells("0 0 moveto 0 4 4 4 4 0 curveto flattenpath pathbbox = = = =",
                "3.00000 4.00000 0.00000 0.00000");
        Probe.tells("0 setflat 0 0 moveto 3 { 0 4000 4000 4000 4000 0 curveto } repeat flattenpath",
                "error 12");
    }

    private static void reversing() {
        Probe.tells("1 2 moveto 3 4 lineto 5 6 lineto reversepath currentpoint = =", "2.00000 1.00000");
        Probe.tells("1 2 moveto 3 4 lineto 5 6 lineto closepath reversepath currentpoint = =",
                "6.00000 5.00000");
        Probe.tells("1 2 moveto 3 4 lineto 5 6 moveto 7 8 lineto reversepath currentpoint = =",
                "6.00000 5.00000");
        Probe p = new Probe();
        p.run("0 0 moveto 1 1 lineto 1 2 3 4 5 6 curveto closepath 9 9 moveto reversepath");
        Probe.due("as many parts", p.machine.depth(4), 5);
        // What is reversed twice is as it was, so it is filled alike.
        p = new Probe();
        Probe once = new Probe();
        once.run("1 1 moveto 9 3 lineto 12 15 3 12 8 9 curveto closepath 2 9 lineto 5 9 lineto fill");
        p.run("1 1 moveto 9 3 lineto 12 15 3 12 8 9 curveto closepath 2 9 lineto 5 9 lineto "
                + "reversepath reversepath fill");
        for (int row = 0; row < 16; row++) {
            Probe.due("row " + row, p.row(row), once.row(row));
        }
    }

    private static void boxes() {
        Probe.tells("1 2 moveto 5 6 lineto 3 9 lineto pathbbox = = = =",
                "9.00000 5.00000 2.00000 1.00000");
        Probe.tells("1 1 moveto 0 9 9 9 5 1 curveto 20 -3 moveto pathbbox = = = =",
                "9.00000 20.00000 -3.00000 0.00000");
        Probe.tells("45 rotate 0 0 moveto 1 0 lineto pathbbox = = = =",
                "0.49997 0.99997 -0.50003 -0.00003");
        Probe.tells("pathbbox", "error 13");
        Probe.tells("1 1 moveto 0 1 scale pathbbox", "error 6");
    }

    private static void limits() {
        Probe p = new Probe();
        p.run("0 0 moveto 2999 { 1 1 lineto } repeat");
        Probe.due("3000 parts", p.machine.depth(4), 3000);
        Probe.tells("0 0 moveto 3000 { 1 1 lineto } repeat", "error 12");
        Probe.tells("0 0 moveto 2999 { 1 1 lineto } repeat closepath", "error 12");
        Probe.tells("0 0 moveto 2999 { 1 1 lineto } repeat 1 1 moveto", "error 12");
        Probe.tells("0 0 moveto 2997 { 1 1 lineto } repeat closepath 1 1 lineto", "error 12");
        Probe.tells("0 0 moveto 2996 { 1 1 lineto } repeat closepath 1 1 lineto", "");
        Probe.tells("0 0 moveto 2998 { 1 1 lineto } repeat 1 1 moveto 2 2 moveto", "");
        Probe.tells("0 0 moveto 2995 { 1 1 lineto } repeat 5 5 2 0 360 arc", "error 12");
        Probe.tells("0 0 moveto 2994 { 1 1 lineto } repeat 5 5 2 0 360 arc", "");
    }
}
