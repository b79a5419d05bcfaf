import java.math.BigDecimal;

/** Part 9: the page's edges, centres and windings, grays, the pile and the clips with their limits. */
public final class PageEdgesTest {
    private static final String PLAIN = "[ 1 0 0 1 0 0 ] setmatrix ";

    public static void main(String[] args) {
        sizes();
        grays();
        graysThatAreSet();
        upperAndLowerEdges();
        leftAndRightEdges();
        slantedEdges();
        rules();
        closedLines();
        widePages();
        farAway();
        pathsThatGo();
        clips();
        clipsOfManyRuns();
        runsOfAllClips();
        refusedClips();
        pile();
        whatIsOnThePile();
        firstGraphics();
        flatness();
        erased();
        Probe.finish();
    }

    private static String unit(int n) {
        return BigDecimal.valueOf(n).divide(BigDecimal.valueOf(65536)).toPlainString() + " ";
    }

    /** "THE PAGE has columns and rows of pixels, 1 .. 256 each", brought there by the constructor */
    private static void sizes() {
        int[] asked = {Integer.MIN_VALUE, -1, 0, 1, 2, 255, 256, 257, Integer.MAX_VALUE};
        int[] made = {1, 1, 1, 1, 2, 255, 256, 256, 256};
        for (int i = 0; i < asked.length; i++) {
            PageMachine wide = new PageMachine(asked[i], 3);
            Probe.due("last column of " + asked[i], wide.gray(made[i] - 1, 2), 255);
            Probe.due("behind it of " + asked[i], wide.gray(made[i], 2), -1);
            Probe.due("pixels of " + asked[i], wide.depth(5), 3 * made[i]);
            Probe.due("count of " + asked[i], wide.count(2, 255), made[i]);
            PageMachine high = new PageMachine(3, asked[i]);
            Probe.due("last row of " + asked[i], high.gray(2, made[i] - 1), 255);
            Probe.due("below it of " + asked[i], high.gray(2, made[i]), -1);
            Probe.due("count below " + asked[i], high.count(made[i], 255), -1);
            Probe.due("count in the last row of " + asked[i], high.count(made[i] - 1, 255), 3);
        }
        Probe p = new Probe(256, 256);
        p.run("0 0 moveto 256 0 lineto 256 256 lineto 0 256 lineto fill");
        Probe.due("all of a row", p.machine.count(255, 0), 256);
        Probe.due("the first pixel", p.machine.gray(0, 0), 0);
        Probe.due("the last one", p.machine.gray(255, 255), 0);
    }

    private static int painted(String gray) {
        Probe p = new Probe(1, 1);
        p.run(gray + " setgray 0 0 moveto 1 0 lineto 1 1 lineto 0 1 lineto fill");
        return p.machine.gray(0, 0);
    }

    /** "The gray that is painted is 255 x ROUNDED." */
    private static void grays() {
        Probe.due("128 units", painted(unit(128)), 0);
        Probe.due("129 units", painted(unit(129)), 1);
        Probe.due("65407 units", painted(unit(65407)), 254);
        Probe.due("65408 units", painted(unit(65408)), 255);
        Probe.due("one half", painted("0.5"), 128);
        Probe.due("a unit less", painted(unit(32767)), 127);
        Probe.due("0", painted("0"), 0);
        Probe.due("1", painted("1"), 255);
    }

    /** "(Numbers x here are as reals: RANGE, before they are brought to anything.) setgray (x, brought to 0 .. 1)" */
    private static void graysThatAreSet() {
        Probe.leaves("-0.00002 setgray currentgray 0 setgray currentgray 1 setgray currentgray 1.00002 setgray currentgray",
                "0u 0u 65536u 65536u");
        Probe.leaves("32767 setgray currentgray -32767 setgray currentgray 0.00002 setgray currentgray 0.99998 setgray currentgray",
                "65536u 0u 1u 65535u");
        Probe.leaves("32768 setgray", "32768 error 4");
        Probe.leaves("-32768 setgray", "-32768 error 4");
        Probe.leaves("0.5 setgray { 32768 setgray } stopped pop pop currentgray", "32768u");
        Probe.leaves("32768 setlinewidth", "32768 error 4");
        Probe.leaves("-32768 setflat", "-32768 error 4");
    }

    /** The pixels of a box by its units, on a page of three columns and rows. */
    private static String box(int left, int top, int right, int bottom) {
        Probe p = new Probe(3, 3);
        p.run(PLAIN + unit(left) + unit(top) + "moveto " + unit(right) + unit(top) + "lineto "
                + unit(right) + unit(bottom) + "lineto " + unit(left) + unit(bottom) + "lineto fill");
        return p.row(0) + " " + p.row(1) + " " + p.row(2);
    }

    /** "for each edge .. with b <= y < d, 1 more, for each with d <= y < b, 1 less" */
    private static void upperAndLowerEdges() {
        Probe.due("a box of one pixel", box(65536, 65536, 131072, 131072), "... .#. ...");
        Probe.due("an upper edge on the centre", box(65536, 98304, 131072, 131072), "... .#. ...");
        Probe.due("and below it", box(65536, 98305, 131072, 131072), "... ... ...");
        Probe.due("a lower edge on the centre", box(65536, 65536, 131072, 98304), "... ... ...");
        Probe.due("and below it", box(65536, 65536, 131072, 98305), "... .#. ...");
        Probe.due("turned about", box(65536, 131072, 131072, 98304), "... .#. ...");
        Probe.due("turned about, below it", box(65536, 131072, 131072, 98305), "... ... ...");
        Probe.due("no height", box(65536, 98304, 131072, 98304), "... ... ...");
        Probe.due("one unit of height", box(65536, 98304, 131072, 98305), "... .#. ...");
    }

    /** ".. if the edge at y .. is not right of x" */
    private static void leftAndRightEdges() {
        Probe.due("a left edge on the centre", box(98304, 65536, 131072, 131072), "... .#. ...");
        Probe.due("and right of it", box(98305, 65536, 131072, 131072), "... ... ...");
        Probe.due("a right edge on the centre", box(65536, 65536, 98304, 131072), "... ... ...");
        Probe.due("and right of it", box(65536, 65536, 98305, 131072), "... .#. ...");
        Probe.due("turned about", box(131072, 65536, 98304, 131072), "... .#. ...");
        Probe.due("turned about, right of it", box(131072, 65536, 98305, 131072), "... ... ...");
        Probe.due("one unit of width", box(98304, 65536, 98305, 131072), "... .#. ...");
        Probe.due("no width", box(98304, 65536, 98304, 131072), "... ... ...");
        Probe.due("the page's corner", box(0, 0, 32769, 32769), "#.. ... ...");
        Probe.due("less than that", box(0, 0, 32768, 32769), "... ... ...");
        Probe.due("all of it", box(-1, -1, 196609, 196609), "### ### ###");
        Probe.due("to its last centres", box(32768, 32768, 163841, 163841), "### ### ###");
        Probe.due("but its last ones", box(32768, 32768, 163840, 163840), "##. ##. ...");
    }

    private static int firstPixel(int x, int y, int x2, int y2) {
        Probe p = new Probe(1, 1);
        p.run(PLAIN + unit(x) + unit(y) + "moveto " + unit(x2) + unit(y2) + "lineto 9 " + unit(y2) + "lineto 9 "
                + unit(y) + "lineto fill");
        return p.machine.gray(0, 0);
    }

    /** "(the exact place between a and c)": a third of a unit counts. */
    private static void slantedEdges() {
        Probe.due("a third of a unit right of the centre", firstPixel(32768, 32767, 32769, 32770), 255);
        Probe.due("a third of a unit left of it", firstPixel(32768, 32767, 32767, 32770), 0);
        Probe.due("two thirds left of it", firstPixel(32769, 32770, 32767, 32767), 0);
        Probe.due("on it", firstPixel(32767, 32767, 32769, 32769), 0);
        Probe.due("on it from the right", firstPixel(32769, 32767, 32767, 32769), 0);
        Probe.due("beginning on it", firstPixel(32768, 32768, 32769, 32770), 0);
        Probe.due("ending on it", firstPixel(32768, 32768, 32769, 32766), 255);
        Probe.due("upwards", firstPixel(32769, 32770, 32768, 32767), 255);
        Probe.due("from far away", firstPixel(-536870912 + 65536, -536870912 + 65536, 536870912, 536870912), 0);
        Probe.due("from far away, right of it", firstPixel(-536870912 + 65537, -536870912 + 65536, 536870912, 536870912), 255);
    }

    /** "INSIDE under rule 0 when its winding number is not 0, under rule 1 when it is odd" */
    private static void rules() {
        String outer = PLAIN + "0 0 moveto 5 0 lineto 5 1 lineto 0 1 lineto ";
        String same = "1 0 moveto 4 0 lineto 4 1 lineto 1 1 lineto ";
        String back = "1 0 moveto 1 1 lineto 4 1 lineto 4 0 lineto ";
        String third = "2 0 moveto 3 0 lineto 3 1 lineto 2 1 lineto ";
        Probe p = new Probe(5, 1);
        String[] programs = {outer + same + "fill", outer + same + "eofill", outer + back + "fill", outer + back + "eofill",
            outer + same + third + "fill", outer + same + third + "eofill", outer + back + third + "fill",
            back + back + "fill", back + back + "eofill"};
        String[] rows = {"#####", "#...#", "#...#", "#...#", "#####", "#.#.#", "#.#.#", ".###.", "....."};
        for (int i = 0; i < programs.length; i++) {
            p.run((programs[i].startsWith("[") ? "" : PLAIN) + programs[i]);
            Probe.due(programs[i], p.row(0), rows[i]);
            p.run((programs[i].startsWith("[") ? "" : PLAIN) + programs[i].replace("eofill", "eoclip").replace("fill", "clip"));
            int pixels = rows[i].replace(".", "").length();
            Probe.due("clip by " + programs[i], p.machine.depth(5), pixels);
        }
    }

    /** "each subpath is a closed line of its points"; subpaths that are one point or one line are nothing */
    private static void closedLines() {
        Probe p = new Probe(4, 4);
        p.run(PLAIN + "0 0 moveto 4 0 lineto 4 4 lineto fill");
        Probe.due("closed without closepath", p.row(1) + p.row(2), ".###..##");
        p.run(PLAIN + "0 0 moveto 4 0 lineto 4 4 lineto closepath fill");
        Probe.due("and with it", p.row(1) + p.row(2), ".###..##");
        p.run(PLAIN + "1 1 moveto fill 0 0 moveto 4 4 lineto fill 2 2 moveto closepath fill 0 0 moveto 4 0 lineto fill");
        Probe.due("nothing inside", p.row(0) + p.row(1), "........");
        p.run(PLAIN + "0 0 moveto 4 0 lineto 4 4 lineto 9 9 moveto 0 0 moveto 0 4 lineto 4 4 lineto fill");
        Probe.due("one after the other", p.row(0) + p.row(3), "########");
        // Behind closing the way goes on from the subpath's beginning.
        p.run(PLAIN + "0 0 moveto 2 0 lineto 2 2 lineto closepath 0 4 lineto 4 4 lineto fill");
        Probe.due("a subpath behind closing", p.row(3), "###.");
    }

    /** Boxes on a wide page: their rows, and the pixels next to them. */
    private static void widePages() {
        int[] lefts = {0, 1, 62, 63, 64, 65, 127, 128, 190, 191, 192, 250};
        for (int left : lefts) {
            for (int width : new int[] {1, 2, 3, 70, 130}) {
                Probe p = new Probe(256, 9);
                int right = Math.min(256, left + width);
                p.run(PLAIN + left + " 3 moveto " + right + " 3 lineto " + right + " 6 lineto " + left + " 6 lineto "
                        + "gsave fill grestore clip");
                String what = "box of " + width + " at " + left;
                for (int row = 0; row < 9; row++) {
                    Probe.due(what + ": row " + row, p.machine.count(row, 0), row >= 3 && row < 6 ? right - left : 0);
                }
                Probe.due(what + ": first", p.machine.gray(left, 4), 0);
                Probe.due(what + ": last", p.machine.gray(right - 1, 5), 0);
                Probe.due(what + ": clip", p.machine.depth(5), 3 * (right - left));
            }
        }
    }

    private static void farAway() {
        Probe p = new Probe(4, 4);
        p.run(PLAIN + "-8192 -8192 moveto 8192 -8192 lineto 8192 8192 lineto -8192 8192 lineto fill");
        Probe.due("as great as may be", p.row(0) + p.row(3), "########");
        p.run(PLAIN + "-8192 0 moveto -1 0 lineto -1 4 lineto -8192 4 lineto fill");
        Probe.due("left of the page", p.row(1), "....");
        p.run(PLAIN + "5 0 moveto 8192 0 lineto 8192 4 lineto 5 4 lineto fill");
        Probe.due("right of it", p.row(1), "....");
        p.run(PLAIN + "0 5 moveto 0 9 lineto 4 9 lineto 4 5 lineto fill 0 -9 moveto 0 -5 lineto 4 -5 lineto fill");
        Probe.due("below and above it", p.row(0) + p.row(3), "........");
        p.run(PLAIN + "-5 1 moveto 2 1 lineto 2 2 lineto -5 2 lineto fill 3 2 moveto 99 2 lineto 99 3 lineto 3 3 lineto fill");
        Probe.due("over its left edge", p.row(1), "##..");
        Probe.due("over its right edge", p.row(2), "...#");
        p.run(PLAIN + "1 -9 moveto 2 -9 lineto 2 99 lineto 1 99 lineto fill");
        Probe.due("over both others", p.row(0) + p.row(3), ".#...#..");
    }

    /** "the path is gone" behind fill and stroke, "the path stays" behind clip */
    private static void pathsThatGo() {
        String path = "0 0 moveto 4 0 lineto 4 4 lineto ";
        Probe.depthIs(path + "fill", 4, 0);
        Probe.depthIs(path + "eofill", 4, 0);
        Probe.depthIs(path + "stroke", 4, 0);
        Probe.depthIs(path + "clip", 4, 3);
        Probe.depthIs(path + "eoclip", 4, 3);
        Probe.depthIs(path + "erasepage", 4, 3);
        Probe.depthIs(path + "initclip", 4, 3);
        Probe.depthIs("5 5 2 0 90 arc clip", 4, 2);
    }

    private static void clips() {
        String left = PLAIN + "0 0 moveto 2 0 lineto 2 4 lineto 0 4 lineto clip newpath ";
        String low = "0 3 moveto 4 3 lineto 4 4 lineto 0 4 lineto clip newpath ";
        String all = "0 0 moveto 4 0 lineto 4 4 lineto 0 4 lineto fill ";
        Probe p = new Probe(4, 4);
        p.run(left + all);
        Probe.due("within the clip", p.row(0) + p.row(3), "##..##..");
        p.run(left + low + all);
        Probe.due("within both", p.row(2) + p.row(3), "....##..");
        Probe.due("pixels", p.machine.depth(5), 2);
        p.run(left + "clip " + all);
        Probe.due("without a path no pixel is inside", p.row(0), "....");
        Probe.due("none", p.machine.depth(5), 0);
        p.run(left + "eoclip initclip " + all);
        Probe.due("all pixels again", p.row(0), "####");
        Probe.due("all", p.machine.depth(5), 16);
        p.run("clip");
        Probe.due("a new clip of nothing", p.machine.depth(5), 0);
        p.run(left);
        Probe.due("half the page", p.machine.depth(5), 8);
        p.run("");
        Probe.due("load makes all new", p.machine.depth(5), 16);
    }

    /** Stripes of one column each, 128 of them, so many of which are so high and the others one less. */
    private static String striped(int higher, int height) {
        return PLAIN + "0 2 254 { dup 0 moveto " + (2 * higher) + " lt { " + height + " } { " + (height - 1)
                + " } ifelse /h exch def 0 h rlineto 1 0 rlineto 0 h neg rlineto closepath } for clip newpath ";
    }

    private static void runs(String program, int error, int pixels) {
        Probe p = new Probe(256, 256);
        p.run(program);
        Probe.due("error of " + program, p.machine.error(), error);
        Probe.due("pixels of " + program, p.machine.depth(5), pixels);
    }

    /** "(LIMIT as for fill, and for more than 24000 runs together)" */
    private static void clipsOfManyRuns() {
        runs(striped(64, 188), 0, 24000);
        runs(striped(65, 188), 12, 65536);
        runs(striped(128, 187), 0, 128 * 187);
        runs(striped(128, 188), 12, 65536);
        // Of odd columns as well.
        String odd = "0 2 254 { dup 1 add 0 moveto ";
        runs(striped(64, 188).replace("0 2 254 { dup 0 moveto ", odd), 0, 24000);
        runs(striped(65, 188).replace("0 2 254 { dup 0 moveto ", odd), 12, 65536);
        // Stripes of two columns, one of them over the columns 63 and 64: 86 of them in each row.
        String twos = PLAIN + "0 3 255 { 0 moveto 0 %1 rlineto 2 0 rlineto 0 -%1 rlineto closepath } for clip newpath gsave";
        runs(twos.replace("%1", "139"), 0, 171 * 139);
        runs(twos.replace("%1", "140"), 12, 171 * 140);
        // A run is pixels of one row that follow one another, however many.
        runs(PLAIN + "0 0 moveto 256 0 lineto 256 256 lineto 0 256 lineto clip", 0, 65536);
    }

    /** "gsave .. (LIMIT; also when all clips would have more than 24000 RUNS ..)" */
    private static void runsOfAllClips() {
        runs(striped(96, 94) + "gsave", 0, 12000);
        runs(striped(97, 94) + "gsave", 12, 12001);
        runs(striped(96, 94) + "save", 0, 12000);
        runs(striped(97, 94) + "save", 12, 12001);
        runs(striped(128, 62) + "gsave gsave", 0, 7936);
        runs(striped(64, 63) + "gsave gsave", 0, 8000);
        runs(striped(65, 63) + "gsave gsave", 12, 8001);
        runs("gsave " + striped(64, 186), 0, 64 * 186 + 64 * 185);
        // 256 runs of the page's own clip are on the pile: 23744 are left.
        runs("gsave " + striped(65, 186), 12, 65536);
        runs(striped(96, 94) + "gsave initclip", 0, 65536);
        runs(striped(96, 94) + "gsave initclip gsave", 0, 65536);
        runs(striped(96, 94) + "gsave initclip grestore", 0, 12000);
        String font = "<< /FontMatrix [ 1 0 0 1 0 0 ] /BuildGlyph { pop pop } >> setfont ";
        runs(striped(96, 94) + font + "1 1 moveto (a) show", 0, 12000);
        runs(striped(97, 94) + font + "1 1 moveto (a) show", 12, 12001);
        runs(striped(97, 94) + font + "1 1 moveto () show", 0, 12001);
    }

    private static void refusedClips() {
        Probe p = new Probe(256, 256);
        p.run("0.5 setgray gsave { " + striped(64, 187) + "} stopped");
        Probe.due("LIMIT is caught", p.machine.kindOf(0), 2);
        Probe.due("the clip is as before", p.machine.depth(5), 65536);
        Probe.due("the path, too", p.machine.depth(4), 640);
    }

    /** "gsave puts a copy of them on a pile of 12 (LIMIT ..), grestore .. (nothing if there is none ..)" */
    private static void pile() {
        Probe.depthIs("12 { gsave } repeat", 3, 12);
        Probe.leaves("13 { gsave } repeat", "error 12");
        Probe.leaves("12 { gsave } repeat save", "error 12");
        Probe.depthIs("grestore grestore", 3, 0);
        Probe.depthIs("12 { gsave } repeat 13 { grestore } repeat", 3, 0);
        Probe.depthIs("12 { gsave } repeat grestore gsave", 3, 12);
        Probe.leaves("1 1 moveto grestore currentpoint 0.5 setgray grestore currentgray", "65536u 65536u 32768u");
    }

    /** "THE GRAPHICS are THE MATRIX, the path, the CLIP, the gray, the width, cap, join, limit, dashes .." */
    private static void whatIsOnThePile() {
        String set = "1 1 moveto 3 1 lineto 0.5 setgray 3 setlinewidth 2 2 scale gsave ";
        String change = "newpath 7 7 moveto 0.25 setgray 5 setlinewidth 3 3 scale clip grestore ";
        Probe.leaves(set + change + "currentpoint currentgray currentlinewidth matrix currentmatrix 0 get",
                "98304u 32768u 32768u 196608u 131072u");
        Probe.depthIs(set + change, 4, 2);
        Probe.depthIs(set + change, 5, 256);
        // Cap, join, limit, dashes and flatness are seen in what is painted.
        String[] changes = {"2 setlinecap", "2 setlinejoin", "1 setmiterlimit", "[ 2 ] 0 setdash", "[ 2 ] 1 setdash",
            "[ 3 1 1 1 1 1 1 4 ] 0 setdash", "100 setflat"};
        String draw = "2 setlinewidth 3 3 moveto 9 3 lineto 9 9 lineto 9 12 2 12 3 7 curveto stroke";
        String same = picture(draw);
        for (String other : changes) {
            String changed = picture(other + " " + draw);
            String reset = "0 setlinecap 0 setlinejoin 10 setmiterlimit [ ] 0 setdash 0.25 setflat ";
            Probe.due(other + " changes what is painted", changed.equals(same) ? 1 : 0, 0);
            Probe.due(other + " is gone by grestore", picture("gsave " + other + " grestore " + draw), same);
            Probe.due(other + " is kept by gsave", picture(other + " gsave " + reset + "grestore " + draw), changed);
            Probe.due(other + " is kept by save", picture(other + " save " + reset + "restore " + draw), changed);
            Probe.due(other + " is kept by save and grestore",
                    picture(other + " save pop " + reset + "grestore " + draw), changed);
        }
    }

    private static String picture(String program) {
        Probe p = new Probe();
        p.run(program);
        StringBuilder text = new StringBuilder();
        for (int row = 0; row < 16; row++) {
            text.append(p.row(row));
        }
        return text.toString();
    }

    /** The first ones: "the gray (0.0), the width (1.0), cap (0), join (0), limit (10.0), dashes (none), .." */
    private static void firstGraphics() {
        Probe.leaves("currentgray currentlinewidth currentfont", "0u 65536u null");
        Probe p = new Probe();
        String draw = "1 1 moveto 9 3 lineto 2 4 lineto 9 12 2 12 3 7 curveto stroke";
        p.run(draw);
        Probe set = new Probe();
        set.run("0 setgray 1 setlinewidth 0 setlinecap 0 setlinejoin 10 setmiterlimit [ ] 0 setdash 0.25 setflat " + draw);
        for (int row = 0; row < 16; row++) {
            Probe.due("row " + row, p.row(row), set.row(row));
        }
        p = new Probe();
        p.run("2 setlinecap 2 setlinejoin 3 setmiterlimit [ 1 ] 0 setdash 9 setflat 5 setlinewidth 0.5 setgray gsave");
        p.run(draw);
        String same = picture(draw);
        for (int row = 0; row < 16; row++) {
            Probe.due("load makes the first ones: row " + row, p.row(row), same.substring(16 * row, 16 * row + 16));
        }
        Probe.due("and an empty pile", p.machine.depth(3), 0);
    }

    /** "the path's curves being FLATTENED by the flatness" */
    private static void flatness() {
        // A curve that is one line by a great flatness has nothing inside.
        Probe p = new Probe();
        p.run("100 setflat 2 2 moveto 2 14 14 14 14 2 curveto fill");
        Probe.due("one line", p.machine.count(9, 0), 0);
        p.run("2 2 moveto 2 14 14 14 14 2 curveto fill");
        Probe.due("a curve", p.machine.count(9, 0), 10);
        p.run("100 setflat 2 2 moveto 2 14 14 14 14 2 curveto clip");
        Probe.due("a clip of one line", p.machine.depth(5), 0);
    }

    /** "erasepage: all pixels get 255, clip or not" */
    private static void erased() {
        Probe p = new Probe(4, 4);
        p.run("0 0 moveto 4 0 lineto 4 4 lineto 0 4 lineto fill clip erasepage");
        Probe.due("all pixels", p.row(0) + p.row(3), "........");
        Probe.due("the clip stays", p.machine.depth(5), 0);
        p.run("0 0 moveto 4 0 lineto 4 4 lineto 0 4 lineto fill 0.5 setgray erasepage");
        Probe.due("all white", p.machine.count(2, 255), 4);
    }
}
