/** Part 9: the page, fills, clips, strokes; promises 13 and 14. */
public final class PaintTest {
    public static void main(String[] args) {
        fills();
        windings();
        centres();
        grays();
        clips();
        pile();
        settings();
        sides();
        joins();
        dashes();
        strokeLimits();
        work();
        Probe.finish();
    }

    private static void rows(Probe p, String program, String... want) {
        Probe.due(program, p.run(program), 0);
        for (int row = 0; row < want.length; row++) {
            Probe.due(program + ": row " + row, p.row(row), want[row]);
        }
    }

    private static void fills() {
        rows(new Probe(6, 4), "1 1 moveto 4 1 lineto 4 3 lineto 1 3 lineto fill",
                "......", ".###..", ".###..", "......");
        rows(new Probe(6, 4), "0 0 moveto 6 0 lineto 0 4 lineto fill",
                "#.....", "##....", "####..", "#####.");
        Probe p = new Probe(6, 4);
        p.run("1 1 moveto 4 1 lineto 4 3 lineto fill");
        Probe.due("the path is gone", p.machine.depth(4), 0);
        Probe.due("a fill of nothing", p.run("fill eofill stroke"), 0);
        rows(new Probe(6, 4), "-100 -100 moveto 200 -100 lineto 200 200 lineto -100 200 lineto fill",
                "######", "######", "######", "######");
        rows(new Probe(4, 4), "2 2 2 0 360 arc fill", ".##.", "####", "####", ".##.");
        rows(new Probe(4, 2), "0 0 moveto 4 0 lineto 4 2 lineto 0 2 lineto fill erasepage", "....", "....");
    }

    private static void windings() {
        String twice = "0 0 moveto 5 0 lineto 5 5 lineto 0 5 lineto closepath "
                + "1 1 moveto 4 1 lineto 4 4 lineto 1 4 lineto closepath ";
        rows(new Probe(5, 5), twice + "fill", "#####", "#####", "#####", "#####", "#####");
        rows(new Probe(5, 5), twice + "eofill", "#####", "#...#", "#...#", "#...#", "#####");
        String back = "0 0 moveto 5 0 lineto 5 5 lineto 0 5 lineto closepath "
                + "1 1 moveto 1 4 lineto 4 4 lineto 4 1 lineto closepath ";
        rows(new Probe(5, 5), back + "fill", "#####", "#...#", "#...#", "#...#", "#####");
    }

    private static void centres() {
        // An edge through centres: those on a left or upper edge are inside, on the others not.
        rows(new Probe(4, 4), "0.5 0.5 moveto 2.5 0.5 lineto 2.5 2.5 lineto 0.5 2.5 lineto fill",
                "....", "##..", "##..", "....");
        rows(new Probe(4, 4), "0 4 moveto 4 0 lineto 0 0 lineto fill", "....", "#...", "##..", "###.");
        rows(new Probe(4, 4), "4 4 moveto 4 0 lineto 0 0 lineto fill", "...#", "..##", ".###", "####");
    }

    private static void grays() {
        Probe p = new Probe(2, 1);
        String box = " setgray 0 0 moveto 2 0 lineto 2 1 lineto 0 1 lineto fill";
        String[] set = {"0", "1", "0.5", "0.25", "0.002", "0.001", "-3", "7", "0.75"};
        int[] got = {0, 255, 128, 64, 1, 0, 0, 255, 191};
        for (int i = 0; i < set.length; i++) {
            p.run(set[i] + box);
            Probe.due("gray of " + set[i], p.machine.gray(1, 0), got[i]);
            Probe.due("count of " + set[i], p.machine.count(0, got[i]), 2);
        }
        Probe.tells("40000 setgray", "error 4");
        Probe.tells("currentgray = 0.5 setgray currentgray = 2 setgray currentgray =",
                "0.00000 0.50000 1.00000");
    }

    private static void clips() {
        String left = "0 0 moveto 2 0 lineto 2 4 lineto 0 4 lineto ";
        String low = "0 0 moveto 4 0 lineto 4 1 lineto 0 1 lineto ";
        String all = "newpath 0 0 moveto 4 0 lineto 4 4 lineto 0 4 lineto fill";
        Probe p = new Probe(4, 4);
        rows(p, left + "clip " + all, "##..", "##..", "##..", "##..");
        Probe.due("pixels", p.machine.depth(5), 8);
        rows(p, left + "clip newpath " + low + "clip " + all, "....", "....", "....", "##..");
        rows(p, left + "clip newpath " + low + "clip initclip " + all, "####", "####", "####", "####");
        rows(p, left + low + "eoclip " + all, "##..", "##..", "##..", "..##");
        p.run(left + "clip");
        Probe.due("the path stays", p.machine.depth(4), 4);
        p.run("clip");
        Probe.due("no path, no pixel", p.machine.depth(5), 0);
        rows(p, left + "clip newpath " + all + " erasepage", "....", "....", "....", "....");
        rows(p, left + "gsave clip " + "grestore " + all, "####", "####", "####", "####");
    }

    private static void pile() {
        Probe.tells("13 { gsave } repeat", "error 12");
        Probe.tells("12 { gsave } repeat 14 { grestore } repeat", "");
        Probe.tells("0.5 setgray 3 setlinewidth gsave 0 setgray 1 setlinewidth grestore currentgray = currentlinewidth =",
                "0.50000 3.00000");
        Probe.tells("1 2 moveto gsave newpath 5 5 moveto 2 2 scale grestore currentpoint = =",
                "2.00000 1.00000");
        String stripes = "0 2 254 { 0 moveto 0 %1 rlineto 1 0 rlineto 0 -%1 rlineto closepath } for clip newpath ";
        Probe wide = new Probe(256, 256);
        Probe.due("187 rows of 128 runs", wide.run(stripes.replace("%1", "187")), 0);
        Probe.due("188 rows", wide.run(stripes.replace("%1", "188")), 2);
        Probe.due("are too many", wide.machine.error(), 12);
        Probe.due("two of 93 rows", wide.run(stripes.replace("%1", "93") + "gsave"), 0);
        Probe.due("two of 94 rows", wide.run(stripes.replace("%1", "94") + "gsave"), 2);
        Probe.due("a save's copy that stays", wide.run(stripes.replace("%1", "93")
                + "save pop initclip grestore"), 0);
        Probe.due("is gone back to", wide.machine.depth(5), 93 * 128);
    }

    private static void settings() {
        Probe.tells("currentlinewidth = -3 setlinewidth currentlinewidth =", "1.00000 3.00000");
        Probe.tells("1 setlinecap", "error 4");
        Probe.tells("1 setlinejoin", "error 4");
        Probe.tells("2.0 setlinecap", "error 3");
        Probe.tells("0.5 setmiterlimit", "error 4");
        Probe.tells("100.5 setmiterlimit", "error 4");
        Probe.tells("1 setmiterlimit 100 setmiterlimit 2 setlinejoin 0 setlinecap 500 setflat", "");
        Probe.tells("[ 1 2 3 4 5 6 7 8 9 ] 0 setdash", "error 4");
        Probe.tells("[ 1 (a) ] 0 setdash", "error 3");
        Probe.tells("[ -1 (a) ] 0 setdash", "error 4");
        Probe.tells("[ 40000 ] 0 setdash", "error 4");
        Probe.tells("[ 0 0 ] 0 setdash", "error 4");
        Probe.tells("[ 1 ] -1 setdash", "error 4");
        Probe.tells("[ ] -1 setdash", "error 4");
        Probe.tells("[ 1 ] 40000 setdash", "error 4");
        Probe.tells("{ 1 2 } 0 setdash [ ] 5 setdash", "");
        Probe.tells("(ab) 0 setdash", "error 3");
    }

    private static void sides() {
        rows(new Probe(8, 5), "1 2.5 moveto 6 2.5 lineto 3 setlinewidth stroke",
                "........", ".#####..", ".#####..", ".#####..", "........");
        rows(new Probe(8, 5), "2 setlinecap 2 2.5 moveto 5 2.5 lineto 3 setlinewidth stroke",
                "........", "######..", "######..", "######..", "........");
        // Without width a line has a half width of one unit.
        rows(new Probe(6, 3), "0 setlinewidth 1 1.5 moveto 4 1.5 lineto stroke", "......", ".###..", "......");
        rows(new Probe(6, 6), "2 2 scale 0.5 setlinewidth 0 1.25 moveto 3 1.25 lineto stroke",
                "......", "......", "......", "######", "......", "......");
        Probe p = new Probe(6, 6);
        p.run("3 3 moveto stroke 3 3 moveto 3 3 lineto closepath 2 setlinecap 5 setlinewidth stroke");
        Probe.due("a point has no pieces", p.machine.count(2, 0), 0);
        Probe.due("the path is gone", p.machine.depth(4), 0);
    }

    private static void joins() {
        String corner = "2 setlinewidth 1 1 moveto 5 1 lineto 5 5 lineto stroke";
        rows(new Probe(7, 6), corner, ".......", "....##.", "....##.", "....##.", ".#####.",
                ".#####.");
        rows(new Probe(7, 6), "2 setlinejoin " + corner, ".......", "....##.", "....##.", "....##.", ".#####.",
                ".####..");
        // With a limit of 1 no mitre is short enough; with 1.42 that of a right angle is.
        rows(new Probe(7, 6), "1 setmiterlimit " + corner, ".......", "....##.", "....##.", "....##.",
                ".#####.", ".####..");
        rows(new Probe(7, 6), "1.42 setmiterlimit " + corner, ".......", "....##.", "....##.", "....##.",
                ".#####.", ".#####.");
        rows(new Probe(6, 6), "2 setlinewidth 2 2 moveto 4 2 lineto 4 4 lineto 2 4 lineto closepath stroke",
                "......", ".####.", ".####.", ".####.", ".####.", "......");
    }

    private static void dashes() {
        String line = "0 0.5 moveto 12 0.5 lineto stroke";
        rows(new Probe(12, 1), "[ 2 1 ] 0 setdash " + line, "##.##.##.##.");
        rows(new Probe(12, 1), "[ 2 1 ] 1 setdash " + line, "#.##.##.##.#");
        rows(new Probe(12, 1), "[ 2 1 ] 2 setdash " + line, ".##.##.##.##");
        rows(new Probe(12, 1), "[ 2 1 ] 3000 setdash " + line, "##.##.##.##.");
        rows(new Probe(12, 1), "[ 3 ] 0 setdash " + line, "###...###...");
        rows(new Probe(12, 1), "[ 1 2 3 ] 0 setdash " + line, "#..###.##...");
        rows(new Probe(12, 1), "[ 1 2 3 ] 6 setdash " + line, ".##...#..###");
        rows(new Probe(12, 1), "[ 0 2 ] 0 setdash 2 setlinecap 1 setlinewidth " + line, "............");
        rows(new Probe(12, 1), "[ 1 3 ] 0 setdash 2 setlinecap 2 setlinewidth 0 0.5 moveto 9 0.5 lineto stroke",
                "##.###.###..");
        rows(new Probe(4, 4), "[ 4 4 ] 0 setdash 0.5 0.5 moveto 2.5 0.5 lineto 2.5 2.5 lineto 0.5 2.5 lineto closepath stroke",
                "....", "..#.", "..#.", "###.");
        // Each subpath begins with the state behind the offset.
        rows(new Probe(4, 2), "[ 2 ] 1 setdash 0 0.5 moveto 4 0.5 lineto 0 1.5 moveto 4 1.5 lineto stroke",
                "#..#", "#..#");
    }

    private static void strokeLimits() {
        Probe.tells("128 setlinewidth 0 0 moveto 5 5 lineto stroke", "");
        Probe.tells("128.1 setlinewidth 0 0 moveto 5 5 lineto stroke", "error 12");
        Probe.tells("128.1 setlinewidth stroke", "error 12");
        Probe.tells("8191.9 0 moveto 8191.9 5 lineto stroke", "error 12");
        Probe.tells("[ 8193 ] 0 setdash 0 0 moveto 5 5 lineto stroke", "error 12");
        Probe.tells("[ 1 ] 8193 setdash 0 0 moveto 5 5 lineto stroke", "error 12");
        Probe.tells("0 0 moveto 1999 { 1 1 rlineto -1 -1 rlineto } repeat stroke", "error 12");
        Probe.tells("0 0 moveto 999 { 1 1 lineto 0 0 lineto } repeat stroke", "");
        Probe.tells("0 0 moveto 1000 { 1 1 lineto 0 0 lineto } repeat stroke", "error 12");
        Probe.tells("0 0 moveto 900 { 1 1 lineto 1 0 lineto } repeat stroke", "");
        Probe.tells("0 0 moveto 333 { 1 1 lineto 1 0 lineto 5 0 lineto } repeat stroke", "");
        Probe.tells("2 setlinecap [ 0.01 ] 0 setdash 0 0 moveto 16 0 lineto stroke", "error 12");
        Probe.tells("0.25 dup scale [ 0 1 ] 0 setdash 0 0 moveto 10000 0 lineto stroke", "");
        Probe.tells("0.25 dup scale [ 0 1 ] 0 setdash 0 0 moveto 10001 0 lineto stroke", "error 12");
        Probe p = new Probe();
        Probe.due("a stroke that fails", p.run("0 5 moveto 16 5 lineto 8192 0 moveto 8192 5 lineto stroke"), 2);
        Probe.due("has painted nothing", p.machine.count(10, 0) + p.machine.count(11, 0), 0);
        Probe.due("and keeps the path", p.machine.depth(4), 4);
    }

    private static void work() {
        // Forty millions in all: what strings would take is counted though they are refused.
        Probe.tells("40000001 string", "error 12");
        Probe.tells("{ 39998976 string } stopped clear erasepage", "");
        Probe.tells("{ 39998977 string } stopped clear erasepage", "error 12");
        Probe.tells("{ 39999984 string } stopped clear initclip", "");
        Probe.tells("{ 39999985 string } stopped clear initclip", "error 12");
        Probe.tells("{ 39998976 string } stopped clear fill", "");
        Probe.tells("{ 39998976 string } stopped clear 0 0 moveto fill", "error 12");
        Probe.tells("{ 39998720 string } stopped clear 0 0 moveto stroke", "");
        Probe.tells("{ 39998721 string } stopped clear 0 0 moveto stroke", "error 12");
        Probe.tells("{ 39999999 string } stopped clear 0 0 moveto gsave", "");
        Probe.tells("{ 39999999 string } stopped clear 0 0 moveto gsave grestore", "error 12");
        Probe.tells("{ 39999994 string } stopped clear (abc) (ab) search pop", "");
        Probe.tells("{ 39999995 string } stopped clear (abc) (ab) search", "error 12");
        Probe.tells("{ 39999995 string } stopped clear (abc) (ab) eq pop", "");
        Probe.tells("{ 39999996 string } stopped clear (abc) (ab) lt", "error 12");
        Probe.tells("{ 40000000 string } stopped clear [ ] pop [ 1 ]", "error 12");
        Probe.tells("{ 40000000 string } stopped clear 1 ]", "error 7");
        Probe.tells("{ 40000000 string } stopped clear (a) /a eq pop -1 array", "error 4");
        Probe.tells("{ 40000000 string } stopped clear 0 0 moveto () show", "error 16");
        Probe.tells("{ 40000000 string } stopped clear 0 0 moveto (a) show", "error 12");
    }
}
