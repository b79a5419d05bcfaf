import java.math.BigDecimal;

/** Part 8, its second half: places, subpaths, 3000 parts, arcs, FLATTENING, sentence by sentence. */
public final class PathEdgesTest {
    private static final String PLAIN = "[ 1 0 0 1 0 0 ] setmatrix ";
    private static final String UNIT = "0.0000152587890625 ";

    public static void main(String[] args) {
        places();
        placesOfCurves();
        rangeThenLimit();
        sumsOfPlaces();
        noPoint();
        beginnings();
        closings();
        parts();
        partsBehindClosing();
        arcsOfParts();
        points();
        boxes();
        arcs();
        arcsOfNoLength();
        arcsOfManyTurns();
        arcsBeyond();
        arcsWithAndWithoutPoint();
        flatCurves();
        halvedCurves();
        flattenedParts();
        reversed();
        pictures();
        lengths();
        Probe.finish();
    }

    /** "PLACES are whole numbers of UNITS .., -536870912 to 536870912" (LIMIT beyond) */
    private static void places() {
        String[] at = {"8192 0", "-8192 0", "0 8192", "0 -8192"};
        String[] beyond = {"8192.00002 0", "-8192.00002 0", "0 8192.00002", "0 -8192.00002"};
        for (int i = 0; i < 4; i++) {
            Probe.leaves(PLAIN + at[i] + " moveto", "");
            Probe.leaves(PLAIN + "0 0 moveto " + at[i] + " lineto", "");
            Probe.depthIs(PLAIN + beyond[i] + " moveto", 4, 0);
            Probe.due("moveto " + beyond[i], error(PLAIN + beyond[i] + " moveto"), 12);
            Probe.due("lineto " + beyond[i], error(PLAIN + "0 0 moveto " + beyond[i] + " lineto"), 12);
        }
        // The first matrix turns y about: the page has 16 rows.
        Probe.leaves("0 8208 moveto 0 -8176 lineto", "");
        Probe.due("above", error("0 8208.00002 moveto"), 12);
        Probe.due("below", error("0 -8176.00002 moveto"), 12);
    }

    private static int error(String program) {
        Probe p = new Probe();
        p.run(program);
        return p.machine.error();
    }

    private static void placesOfCurves() {
        String zero = PLAIN + "0 0 moveto ";
        Probe.leaves(zero + "8192 8192 -8192 -8192 8192 8192 curveto", "");
        for (int i = 0; i < 6; i++) {
            String[] numbers = {"0", "0", "0", "0", "0", "0"};
            numbers[i] = "8192.00002";
            Probe.due("curveto " + i, error(zero + String.join(" ", numbers) + " curveto"), 12);
            Probe.due("rcurveto " + i, error(zero + String.join(" ", numbers) + " rcurveto"), 12);
            numbers[i] = "8192";
            Probe.due("curveto " + i, error(zero + String.join(" ", numbers) + " curveto"), 0);
            Probe.due("rcurveto " + i, error(zero + String.join(" ", numbers) + " rcurveto"), 0);
        }
        Probe.depthIs(zero + "0 0 0 0 9000 0 curveto", 4, 1);
    }

    /** "(RANGE beyond reals, then LIMIT beyond places)" */
    private static void rangeThenLimit() {
        Probe.due("a real, but no place", error("[ 2 0 0 1 0 0 ] setmatrix 16383.99998 0 moveto"), 12);
        Probe.due("no real", error("[ 2 0 0 1 0 0 ] setmatrix 16384 0 moveto"), 4);
        Probe.due("no real below", error("[ 1 0 0 2 0 0 ] setmatrix 0 -16384 moveto"), 4);
        Probe.due("y is no real, x no place", error("[ 1 0 0 2 0 0 ] setmatrix 9000 -16384 moveto"), 4);
        Probe.due("a whole number that is none", error("40000 0 moveto"), 4);
        Probe.due("and a place that is none", error("9000 40000 moveto"), 4);
        Probe.due("dtransform", error("0 0 moveto [ 2 0 0 1 0 0 ] setmatrix 16384 0 rlineto"), 4);
        Probe.due("is looked at alone", error("0 0 moveto [ 2 0 0 1 32767 0 ] setmatrix 5 0 rlineto"), 0);
    }

    /** "(places that are sums)" of rmoveto, rlineto, rcurveto */
    private static void sumsOfPlaces() {
        String from = PLAIN + "8000 -8000 moveto ";
        for (String op : new String[] {"rmoveto", "rlineto"}) {
            Probe.due(op, error(from + "192 -192 " + op), 0);
            Probe.due(op, error(from + "192.00002 0 " + op), 12);
            Probe.due(op, error(from + "0 -192.00002 " + op), 12);
            Probe.due(op, error(from + "-16192 16192 " + op), 0);
            Probe.due(op, error(from + "-16192.00002 0 " + op), 12);
        }
        Probe.due("rcurveto", error(from + "192 0 192 0 192 0 rcurveto"), 0);
        Probe.due("rcurveto", error(from + "192 0 192 0 192.00002 0 rcurveto"), 12);
        // Each two numbers go from THE POINT that there is.
        Probe.leaves(PLAIN + "1 2 moveto 1 1 2 2 3 4 rcurveto currentpoint", "262144u 393216u");
        Probe.leaves(PLAIN + "1 1 moveto [ 1 2 3 5 9 9 ] setmatrix 7 11 rlineto " + PLAIN + "currentpoint", "2686976u 4587520u");
        Probe.leaves(PLAIN + "1 1 moveto [ 1 2 3 5 9 9 ] setmatrix 7 11 rmoveto " + PLAIN + "currentpoint", "2686976u 4587520u");
        Probe.leaves(PLAIN + "1 1 moveto [ 1 2 3 5 9 9 ] setmatrix 1 2 3 4 7 11 rcurveto " + PLAIN + "currentpoint pathbbox",
                "2686976u 4587520u 65536u 65536u 2686976u 4587520u");
        Probe.leaves("[ 1 2 3 5 9 9 ] setmatrix 7 11 moveto 1 2 lineto " + PLAIN + "currentpoint pathbbox",
                "1048576u 1376256u 1048576u 1376256u 3211264u 5111808u");
        Probe.leaves("[ 2 0 0 4 5 5 ] setmatrix 1 1 moveto 1 1 rlineto currentpoint 1 1 rmoveto currentpoint",
                "131072u 131072u 196608u 196608u");
    }

    /** "NO CURRENT POINT, before any number is moved" */
    private static void noPoint() {
        String[] operators = {"lineto", "rmoveto", "rlineto"};
        for (String op : operators) {
            Probe.leaves("1 1 " + op, "1 1 error 13");
            Probe.leaves("9000 1 " + op, "9000 1 error 13");
            Probe.leaves("32767 2 2 scale 32767 " + op, "32767 32767 error 13");
            Probe.leaves("1 1 moveto newpath 1 1 " + op, "1 1 error 13");
            Probe.leaves("1 (a) " + op, "1 (a) error 3");
        }
        Probe.leaves("1 1 1 1 9000 1 curveto", "1 1 1 1 9000 1 error 13");
        Probe.leaves("1 1 1 1 9000 1 rcurveto", "1 1 1 1 9000 1 error 13");
        Probe.leaves("currentpoint", "error 13");
        Probe.leaves("pathbbox", "error 13");
        Probe.leaves("closepath newpath flattenpath reversepath fill eofill stroke", "");
        Probe.leaves("1 1 moveto fill currentpoint", "error 13");
        Probe.leaves("1 1 moveto stroke currentpoint", "error 13");
        Probe.leaves(PLAIN + "1 1 moveto clip currentpoint", "65536u 65536u");
    }

    /** "moveto (x y: in the place of a beginning alone; it wants no point)" */
    private static void beginnings() {
        Probe.depthIs("1 1 moveto 2 2 moveto 3 3 rmoveto", 4, 1);
        Probe.leaves(PLAIN + "1 1 moveto 2 2 moveto 3 3 rmoveto currentpoint pathbbox",
                "327680u 327680u 327680u 327680u 327680u 327680u");
        Probe.depthIs("1 1 moveto 2 2 lineto 3 3 moveto 4 4 moveto", 4, 3);
        Probe.depthIs("1 1 moveto closepath 3 3 moveto 4 4 moveto", 4, 3);
        Probe.depthIs("1 1 moveto 2 2 lineto 3 3 moveto 4 4 lineto 5 5 moveto", 4, 5);
        Probe.leaves(PLAIN + "1 1 moveto 2 2 lineto 9 9 moveto 3 3 moveto pathbbox", "65536u 65536u 196608u 196608u");
    }

    /** "closepath (nothing when it is, or there is none)"; THE POINT "behind closing: where the subpath begins" */
    private static void closings() {
        Probe.depthIs("closepath", 4, 0);
        Probe.depthIs("1 1 moveto closepath", 4, 2);
        Probe.depthIs("1 1 moveto closepath closepath closepath", 4, 2);
        Probe.leaves(PLAIN + "1 2 moveto 5 5 lineto closepath currentpoint", "65536u 131072u");
        Probe.leaves(PLAIN + "1 2 moveto closepath 1 1 rmoveto currentpoint", "131072u 196608u");
        // "A subpath that would go on behind closing is a new one that begins at THE POINT."
        Probe.depthIs("1 1 moveto 2 2 lineto closepath 3 3 lineto", 4, 5);
        Probe.depthIs("1 1 moveto 2 2 lineto closepath 1 1 2 2 3 3 curveto", 4, 5);
        Probe.depthIs("1 1 moveto 2 2 lineto closepath 1 1 rlineto", 4, 5);
        Probe.leaves(PLAIN + "1 2 moveto 5 5 lineto closepath 7 7 lineto closepath currentpoint", "65536u 131072u");
        Probe.leaves(PLAIN + "1 2 moveto 5 5 lineto closepath 1 1 rlineto currentpoint", "131072u 196608u");
        // Where the latest subpath begins, of more than one.
        String two = PLAIN + "1 1 moveto 2 2 lineto 5 6 moveto 7 7 lineto ";
        Probe.leaves(two + "closepath currentpoint", "327680u 393216u");
        Probe.leaves(two + "gsave newpath 9 9 moveto grestore closepath currentpoint", "327680u 393216u");
        Probe.leaves(two + "gsave closepath 3 3 moveto grestore closepath currentpoint", "327680u 393216u");
        Probe.leaves(two + "1 1 2 2 3 3 curveto flattenpath closepath currentpoint", "327680u 393216u");
        Probe.leaves(two + "reversepath closepath currentpoint", "458752u 458752u");
        Probe.leaves(PLAIN + "1 1 moveto 5 5 lineto closepath 7 7 lineto reversepath closepath currentpoint",
                "458752u 458752u");
        Probe.leaves(PLAIN + "1 1 moveto 5 5 lineto closepath 7 7 lineto closepath currentpoint", "65536u 65536u");
        Probe.leaves(PLAIN + "5 5 moveto 6 6 moveto 8 8 lineto closepath currentpoint", "393216u 393216u");
    }

    private static String lines(int parts) {
        return "0 0 moveto " + (parts - 1) + " { 1 1 lineto } repeat ";
    }

    /** "A path has at most 3000 parts: beginnings, lines, curves, closings (LIMIT ..)" */
    private static void parts() {
        String[] operators = {"5 5 lineto", "1 1 2 2 3 3 curveto", "1 1 rlineto", "1 1 2 2 3 3 rcurveto", "closepath",
            "5 5 moveto", "1 1 rmoveto"};
        for (String op : operators) {
            Probe.due("the 3000th part by " + op, error(lines(2999) + op), 0);
            Probe.depthIs(lines(2999) + op, 4, 3000);
            Probe.due("the 3001st part by " + op, error(lines(3000) + op), 12);
            Probe.depthIs(lines(3000) + op, 4, 3000);
        }
        Probe.leaves(lines(3000) + "5 6 lineto", "5 6 error 12");
        Probe.leaves(lines(3000) + "1 2 3 4 5 6 rcurveto", "1 2 3 4 5 6 error 12");
        Probe.leaves(lines(3000) + "5 5 2 0 90 arc", "5 5 2 0 90 error 12");
        // In the place of a beginning alone, and what is closed already, want no room.
        Probe.due("a beginning alone", error(lines(2999) + "5 5 moveto 6 6 moveto 1 1 rmoveto"), 0);
        Probe.due("closed already", error(lines(2999) + "closepath closepath"), 0);
        Probe.due("a path that is gone", error(lines(3000) + "newpath 1 1 moveto 2 2 lineto"), 0);
    }

    /** "a line or curve behind closing wants room for two" */
    private static void partsBehindClosing() {
        String[] operators = {"5 5 lineto", "1 1 2 2 3 3 curveto", "1 1 rlineto", "1 1 2 2 3 3 rcurveto"};
        for (String op : operators) {
            Probe.due("the last two by " + op, error(lines(2997) + "closepath " + op), 0);
            Probe.depthIs(lines(2997) + "closepath " + op, 4, 3000);
            Probe.due("no room for two by " + op, error(lines(2998) + "closepath " + op), 12);
            Probe.depthIs(lines(2998) + "closepath " + op, 4, 2999);
        }
        Probe.due("moveto wants one", error(lines(2998) + "closepath 5 5 moveto"), 0);
        Probe.due("and has none", error(lines(2999) + "closepath 5 5 moveto"), 12);
    }

    private static void arcsOfParts() {
        Probe.due("a line and four curves", error(lines(2995) + "5 5 2 0 360 arc"), 0);
        Probe.due("one more", error(lines(2996) + "5 5 2 0 360 arc"), 12);
        Probe.depthIs(lines(2996) + "5 5 2 0 360 arc", 4, 2996);
        Probe.due("behind closing", error(lines(2993) + "closepath 5 5 2 0 360 arc"), 0);
        Probe.due("one more", error(lines(2994) + "closepath 5 5 2 0 360 arc"), 12);
        Probe.due("a line alone", error(lines(2999) + "5 5 2 0 0 arcn"), 0);
        Probe.due("and no room for it", error(lines(3000) + "5 5 2 0 0 arcn"), 12);
    }

    /** "currentpoint: THE POINT moved back by the INVERSE" */
    private static void points() {
        Probe.leaves("3 4 moveto currentpoint 5 6 lineto currentpoint", "196608u 262144u 327680u 393216u");
        Probe.leaves("3 4 moveto 2 2 scale currentpoint 1 1 translate currentpoint", "98304u 131072u 32768u 65536u");
        Probe.leaves(PLAIN + "3 4 moveto 1 1 2 2 9 8 curveto currentpoint", "589824u 524288u");
    }

    /** "pathbbox: the least x and y and the greatest x and y of all points, control points too" */
    private static void boxes() {
        Probe.leaves(PLAIN + "1 2 moveto pathbbox", "65536u 131072u 65536u 131072u");
        Probe.leaves(PLAIN + "0 0 moveto 9 -5 -3 8 1 1 curveto pathbbox", "-196608u -327680u 589824u 524288u");
        Probe.leaves("0 0 moveto 9 -5 -3 8 1 1 curveto pathbbox", "-196608u -327680u 589824u 524288u");
        Probe.leaves(PLAIN + "1 1 moveto 2 2 lineto closepath 7 7 moveto pathbbox", "65536u 65536u 458752u 458752u");
        Probe.leaves(PLAIN + "0 0 moveto 2 4 lineto 90 rotate pathbbox", "0u -131072u 262144u 0u");
        Probe.leaves(PLAIN + "0 0 moveto 2 4 lineto -1 2 scale pathbbox", "-131072u 0u 0u 131072u");
        // The corners of the box are moved back, not the points.
        Probe.leaves(PLAIN + "0 0 moveto 2 2 lineto [ 1 1 -1 1 0 0 ] setmatrix pathbbox", "0u -65536u 131072u 65536u");
        Probe.leaves("1 1 moveto 5 5 lineto fill pathbbox", "error 13");
    }

    /** An arc about a middle with a matrix that changes nothing: parts, first point, THE POINT, its box. */
    private static void arc(String program, int parts, String first, String last, String box) {
        Probe.depthIs(PLAIN + program, 4, parts);
        Probe.leaves(PLAIN + program + " currentpoint pathbbox reversepath currentpoint",
                (last + " " + box + " " + first).replace(" ", "u ") + "u");
    }

    /** "for each quarter in turn, the part from where the arc begins in it to where it ends in it" */
    private static void arcs() {
        arc("5 5 2 0 90 arc", 2, "458752 327680", "327680 458752", "327680 327680 458752 458752");
        arc("5 5 2 90 0 arcn", 2, "327680 458752", "458752 327680", "327680 327680 458752 458752");
        arc("5 5 2 90 0 arc", 4, "327680 458752", "458752 327680", "196608 196608 458752 458752");
        arc("5 5 2 0 360 arc", 5, "458752 327680", "458752 327680", "196608 196608 458752 458752");
        arc("5 5 2 180 270 arc", 2, "196608 327680", "327680 196608", "196608 196608 327680 327680");
        arc("5 5 2 -90 0 arc", 2, "327680 196608", "458752 327680", "327680 196608 458752 327680");
        arc("5 5 2 -180 -90 arc", 2, "196608 327680", "327680 196608", "196608 196608 327680 327680");
        arc("5 5 2 0 45 arc", 2, "458752 327680", "420364 420364", "420364 327680 458752 420364");
        arc("5 5 2 30 60 arc", 2, "440858 393834", "393834 440858", "393834 393834 440858 440858");
        arc("5 5 2 60 30 arcn", 2, "393834 440858", "440858 393834", "393834 393834 440858 440858");
        arc("5 5 2 30 60 arcn", 6, "440858 393834", "393834 440858", "196608 196608 458752 458752");
        arc("0.5 0.25 1.3333 -100 200 arc", 6, "17060 -69587", "-49144 -14107", "-54611 -70995 120147 103763");
        arc("0.5 0.25 1.3333 -100 200 arcn", 2, "17060 -69587", "-49144 -14107", "-49144 -69587 17060 -14107");
        arc("5 5 -2 0 90 arc", 2, "196608 327680", "327680 196608", "196608 196608 327680 327680");
        arc("5 5 0 0 90 arc", 2, "327680 327680", "327680 327680", "327680 327680 327680 327680");
        arc("0 0 " + UNIT + "0 45 arc", 2, "1 0", "1 1", "1 0 1 1");
        arc("0 0 0.0000762939453125 200 250 arc", 2, "-5 -2", "-2 -5", "-5 -5 -2 -2");
        // Under a matrix that turns and stretches.
        Probe.leaves("[ 1.5 0.3 -0.7 2 3 4 ] setmatrix 1 2 3 20 250 arc " + PLAIN
                + "currentpoint pathbbox reversepath currentpoint",
                "229267u 154751u -167759u 154751u 431599u 962501u 431599u 736456u");
    }

    /** "if these are two different places"; "if there is none, with the point of the quarter of s at its place" */
    private static void arcsOfNoLength() {
        arc("5 5 2 0 0 arc", 1, "458752 327680", "458752 327680", "458752 327680 458752 327680");
        arc("5 5 2 45 45 arc", 1, "420364 420364", "420364 420364", "420364 420364 420364 420364");
        arc("5 5 2 45 45 arcn", 1, "420364 420364", "420364 420364", "420364 420364 420364 420364");
        arc("5 5 2 90 90 arc", 1, "327680 458752", "327680 458752", "327680 458752 327680 458752");
        // A place is 90 units of degrees, rounded: 44 units are place 0 still, 45 units place 1.
        arc("5 5 2 0 0.00067138671875 arc", 1, "458752 327680", "458752 327680", "458752 327680 458752 327680");
        arc("5 5 2 0 0.0006866455078125 arc", 2, "458752 327680", "458752 327686", "458752 327680 458752 327686");
        arc("5 5 2 0.0006866455078125 0.002044677734375 arc", 1, "458752 327686", "458752 327686",
                "458752 327686 458752 327686");
        arc("5 5 2 0.0006866455078125 0.0020599365234375 arc", 2, "458752 327686", "458752 327686",
                "458752 327686 458752 327686");
        arc("5 5 2 0.0006866455078125 0 arcn", 2, "458752 327686", "458752 327680", "458752 327680 458752 327686");
        arc("5 5 2 0.00067138671875 0 arcn", 1, "458752 327680", "458752 327680", "458752 327680 458752 327680");
        // At a quarter's end the last place is that end itself.
        arc("5 5 2 89.9993133544921875 90 arc", 1, "327680 458752", "327680 458752", "327680 458752 327680 458752");
        arc("5 5 2 89.999298095703125 90 arc", 2, "327686 458752", "327680 458752", "327680 458752 327686 458752");
        arc("5 5 2 89.9993133544921875 90.00067138671875 arc", 1, "327680 458752", "327680 458752",
                "327680 458752 327680 458752");
        arc("5 5 2 89.9993133544921875 90.0006866455078125 arc", 2, "327680 458752", "327674 458752",
                "327674 458752 327680 458752");
    }

    /** "e is made greater by whole turns until it is"; "RANGE when e is more than 3600 degrees from s then" */
    private static void arcsOfManyTurns() {
        arc("5 5 2 360 0 arc", 1, "458752 327680", "458752 327680", "458752 327680 458752 327680");
        arc("5 5 2 0 360 arcn", 1, "458752 327680", "458752 327680", "458752 327680 458752 327680");
        arc("5 5 2 " + UNIT + "0 arc", 5, "458752 327680", "458752 327680", "196608 196608 458752 458752");
        arc("5 5 2 0 " + UNIT + "arcn", 5, "458752 327680", "458752 327680", "196608 196608 458752 458752");
        arc("5 5 2 0 3600 arc", 41, "458752 327680", "458752 327680", "196608 196608 458752 458752");
        arc("5 5 2 45 3645 arc", 42, "420364 420364", "420364 420364", "196608 196608 458752 458752");
        arc("5 5 2 0 -3600 arcn", 41, "458752 327680", "458752 327680", "196608 196608 458752 458752");
        arc("5 5 2 45 -3555 arcn", 42, "420364 420364", "420364 420364", "196608 196608 458752 458752");
        Probe.leaves("5 5 2 0 3600.00002 arc", "5 5 2 0 235929601u error 4");
        Probe.leaves("5 5 2 45 3646 arc", "5 5 2 45 3646 error 4");
        Probe.leaves("5 5 2 0 -3600.00002 arcn", "5 5 2 0 -235929601u error 4");
        Probe.leaves("5 5 2 3601 0 arcn", "5 5 2 3601 0 error 4");
        arc("5 5 2 32767 -32767 arc", 5, "457710 344300", "457710 311060", "196608 196608 457710 458752");
        arc("5 5 2 -32767 32767 arcn", 5, "457710 311060", "457710 344300", "196608 196608 457710 458752");
        Probe.leaves("5 5 2 -32767 32767 arc", "5 5 2 -32767 32767 error 4");
    }

    /** "(Order: all as reals; the middle moved; the axes; the angles; LIMIT for axes, middle, points, parts.)" */
    private static void arcsBeyond() {
        for (int i = 0; i < 5; i++) {
            String[] numbers = {"5", "5", "2", "0", "90"};
            numbers[i] = "32768";
            Probe.due("no real: " + i, error(String.join(" ", numbers) + " arc"), 4);
            numbers[i] = "-32768";
            Probe.due("no real: " + i, error(String.join(" ", numbers) + " arcn"), 4);
        }
        Probe.due("the greatest axes", error(PLAIN + "0 0 8192 0 90 arc"), 0);
        Probe.due("are no places", error(PLAIN + "0 0 8192.00002 0 0 arc"), 12);
        Probe.due("nor below", error(PLAIN + "0 0 -8192.00002 90 90 arc"), 12);
        // Each of the axes' four places, where the only point lies nearer.
        String[] matrices = {"1 0 0 0.5", "0.5 0 0 1", "0 1 0.5 0", "0 0.5 1 0"};
        for (String matrix : matrices) {
            Probe.due("the last axis of " + matrix, error("[ " + matrix + " 0 0 ] setmatrix 0 0 8192 45 45 arc"), 0);
            Probe.due("no axis of " + matrix, error("[ " + matrix + " 0 0 ] setmatrix 0 0 8192.00002 45 45 arc"), 12);
        }
        Probe.due("the farthest middle", error(PLAIN + "8192 0 0 0 90 arc"), 0);
        Probe.due("is no place", error(PLAIN + "8192.00002 0 1 180 180 arc"), 12);
        Probe.due("the farthest point", error(PLAIN + "8190 0 2 0 90 arc"), 0);
        Probe.due("is no place", error(PLAIN + "8190 0 2.00002 0 90 arc"), 12);
        Probe.due("on the other side", error(PLAIN + "8190 0 2.00002 180 180 arc"), 0);
        Probe.due("a part without points beyond", error(PLAIN + "8190 0 2.5 45 80 arc"), 0);
        Probe.due("the middle is no real", error("[ 2 0 0 2 0 0 ] setmatrix 16384 0 2 0 90 arc"), 4);
        Probe.due("the axes are no reals", error("[ 2 0 0 2 0 0 ] setmatrix 0 0 16384 0 90 arc"), 4);
        Probe.due("RANGE of angles before LIMIT of the middle", error(PLAIN + "9000 0 1 0 3601 arc"), 4);
        Probe.due("and of the axes", error(PLAIN + "0 0 9000 0 3601 arc"), 4);
        Probe.leaves(PLAIN + "0 0 9000 0 90 arc", "0 0 9000 0 90 error 12");
        Probe.depthIs(PLAIN + "0 0 moveto 0 0 9000 0 90 arc", 4, 1);
    }

    /** "A line goes there, if there is a point; otherwise a subpath begins there." */
    private static void arcsWithAndWithoutPoint() {
        Probe.depthIs("5 5 2 0 90 arc", 4, 2);
        Probe.depthIs("1 1 moveto 5 5 2 0 90 arc", 4, 3);
        Probe.depthIs("7 5 moveto 5 5 2 0 90 arc", 4, 3);
        Probe.depthIs("1 1 moveto closepath 5 5 2 0 90 arc", 4, 5);
        Probe.leaves(PLAIN + "1 1 moveto 5 5 2 0 90 arc closepath currentpoint", "65536u 65536u");
        Probe.leaves(PLAIN + "5 5 2 0 90 arc closepath currentpoint", "458752u 327680u");
        Probe.leaves(PLAIN + "1 1 moveto 5 5 2 45 45 arc currentpoint", "420364u 420364u");
    }

    /** How many lines a curve along x, or along y, becomes, by the units of its points. */
    private static int flattened(String flatness, int[] at, boolean isDown) {
        StringBuilder text = new StringBuilder(PLAIN + flatness);
        for (int i = 0; i < 4; i++) {
            text.append(isDown ? "0 " + unit(at[i]) : unit(at[i]) + "0 ").append(i == 0 ? "moveto " : "");
        }
        Probe p = new Probe();
        p.run(text + "curveto flattenpath");
        return p.machine.depth(4) - 1;
    }

    /** A real of so many units, to the last digit. */
    private static String unit(int n) {
        return BigDecimal.valueOf(n).divide(BigDecimal.valueOf(65536)).toPlainString() + " ";
    }

    /** "a curve a, b, c, d is FLAT when 3 |a - 2 b + c| <= 2 F and 3 |b - 2 c + d| <= 2 F for x and for y" */
    private static void flatCurves() {
        // Of the first flatness, 16384 units: 10922 is flat, 10923 is not.
        for (boolean isDown : new boolean[] {false, true}) {
            for (int way = -1; way <= 1; way += 2) {
                int[] flat = {0, 0, 10922 * way, 21844 * way};
                int[] bent = {0, 0, 10923 * way, 21846 * way};
                int[] flatEnd = {21844 * way, 10922 * way, 0, 0};
                int[] bentEnd = {21846 * way, 10923 * way, 0, 0};
                Probe.due("flat", flattened("", flat, isDown), 1);
                Probe.due("bent", flattened("", bent, isDown), 2);
                Probe.due("flat at its end", flattened("", flatEnd, isDown), 1);
                Probe.due("bent at its end", flattened("", bentEnd, isDown), 2);
            }
        }
        // 16383 units: three times 10922 is just twice that.
        int[] even = {0, 0, 10922, 21844};
        int[] evenEnd = {21844, 10922, 0, 0};
        for (boolean isDown : new boolean[] {false, true}) {
            Probe.due("as flat as must be", flattened(unit(16383) + "setflat ", even, isDown), 1);
            Probe.due("at its end", flattened(unit(16383) + "setflat ", evenEnd, isDown), 1);
            Probe.due("no more", flattened(unit(16382) + "setflat ", even, isDown), 2);
            Probe.due("no more at its end", flattened(unit(16382) + "setflat ", evenEnd, isDown), 2);
        }
        // setflat is brought to 0.0001 .. 100: 7 to 6553600 units.
        int[] least = {0, 0, 4, 8};
        int[] more = {0, 0, 5, 10};
        for (String flat : new String[] {"0 setflat ", "0.0001 setflat ", "-5 setflat ", "0.00005 setflat "}) {
            Probe.due("flat by " + flat, flattened(flat, least, false), 1);
            Probe.due("bent by " + flat, flattened(flat, more, false), 2);
        }
        Probe.due("flat by 8 units", flattened("0.0001220703125 setflat ", more, false), 1);
        int[] great = {0, 0, 4369066, 2 * 4369066};
        int[] greater = {0, 0, 4369067, 2 * 4369067};
        for (String flat : new String[] {"100 setflat ", "100.1 setflat ", "32767 setflat "}) {
            Probe.due("flat by " + flat, flattened(flat, great, true), 1);
            Probe.due("bent by " + flat, flattened(flat, greater, true), 2);
        }
        Probe.due("bent by 99.99997", flattened("99.99997 setflat ", great, true), 2);
    }

    /** "Otherwise both halves in turn .. (v)' the greatest whole number not above v" */
    private static void halvedCurves() {
        String curve = PLAIN + "0 setflat 0 0 moveto 0 %1 0 %1 0 0 curveto flattenpath pathbbox";
        // 5: e is 2, f 5, g 2, h and i 3, so the middle is 3; -5: -3, -5, -3, and -4.
        Probe.leaves(curve.replace("%1", unit(5)), "0u 0u 0u 3u");
        Probe.leaves(curve.replace("%1", unit(-5)), "0u -4u 0u 0u");
        Probe.leaves(curve.replace("%1", unit(7)), "0u 0u 0u 5u");
        Probe.leaves(curve.replace("%1", unit(-7)), "0u -6u 0u 0u");
        String across = PLAIN + "0 setflat 0 0 moveto %1 0 %1 0 0 0 curveto flattenpath pathbbox";
        Probe.leaves(across.replace("%1", unit(5)), "0u 0u 3u 0u");
        Probe.leaves(across.replace("%1", unit(-5)), "-4u 0u 0u 0u");
        // "so is a curve that was halved ten times"
        Probe.depthIs(PLAIN + "0 setflat 0 0 moveto 0 8000 8000 8000 8000 0 curveto flattenpath", 4, 1 + 1024);
        Probe.leaves(PLAIN + "0 setflat 0 0 moveto 0 8 8 8 8 0 curveto flattenpath currentpoint", "524288u 0u");
    }

    /** "flattenpath leaves the lines (LIMIT above 3000 parts)", as fill, clip and stroke do. */
    private static void flattenedParts() {
        String two = PLAIN + "0 setflat 0 0 moveto 2 { 0 8000 8000 8000 8000 0 curveto 0 0 lineto } repeat ";
        // 1 + 1024 + 1 + 1024 + 1 parts are 2051.
        Probe.depthIs(two + "flattenpath", 4, 2051);
        Probe.depthIs(two + "949 { 1 1 lineto } repeat flattenpath", 4, 3000);
        Probe.due("3001 lines", error(two + "950 { 1 1 lineto } repeat flattenpath"), 12);
        Probe.depthIs(two + "950 { 1 1 lineto } repeat flattenpath", 4, 955);
        Probe.due("a closing", error(two + "948 { 1 1 lineto } repeat closepath flattenpath"), 0);
        Probe.due("one too many", error(two + "949 { 1 1 lineto } repeat closepath flattenpath"), 12);
        for (String op : new String[] {"fill", "eofill", "clip", "eoclip"}) {
            Probe.due("3000 by " + op, error(two + "949 { 1 1 lineto } repeat " + op), 0);
            Probe.due("3001 by " + op, error(two + "950 { 1 1 lineto } repeat " + op), 12);
        }
        Probe.depthIs("1 1 moveto 2 2 lineto closepath 3 3 moveto flattenpath", 4, 4);
        // What lies about the curves stays as it is.
        Probe.leaves(PLAIN + "0 0 moveto 1 5 3 9 8 2 curveto flattenpath currentpoint pathbbox",
                "524288u 131072u 0u 0u 524288u 377600u");
        Probe.depthIs(PLAIN + "0 0 moveto 1 5 3 9 8 2 curveto flattenpath", 4, 10);
        Probe.leaves(PLAIN + "0 0 moveto 1 5 3 9 8 2 curveto 9 -4 lineto flattenpath currentpoint pathbbox",
                "589824u -262144u 0u -262144u 589824u 377600u");
        Probe.leaves(PLAIN + "0 0 moveto 1 5 3 9 8 2 curveto 9 -4 moveto -3 -5 lineto flattenpath pathbbox",
                "-196608u -327680u 589824u 377600u");
    }

    private static void looks(String program, String... rows) {
        Probe p = new Probe(rows[0].length(), rows.length);
        p.run(PLAIN + program);
        for (int row = 0; row < rows.length; row++) {
            Probe.due(program + ": row " + row, p.row(row), rows[row]);
        }
    }

    private static final String FIRST = "1 1 moveto 2 9 9 14 15 3 curveto 9 9 lineto 4 15 3 8 2 12 curveto closepath ";
    private static final String[] FIRST_ROWS = {
        "................", "................", "................", ".#............#.",
        ".#...........#..", ".#..........#...", ".##........##...", "..##......##....",
        "..###....#......", "..#######.......", "..######........", "................",
        "................", "................", "................", "................"};
    private static final String SECOND = "0 8 moveto 5 -6 11 22 16 8 curveto 16 16 lineto 0 16 lineto ";
    private static final String[] SECOND_ROWS = {
        "................", "................", "................", "................",
        "..###...........", ".#####..........", ".######.........", "########........",
        "########........", "#########......#", "##########.....#", "###########...##",
        "################", "################", "################", "################"};
    private static final String[] SECOND_FLATTER = {
        "................", "................", "................", "................",
        "..##............", ".####...........", ".#####..........", "#######.........",
        "#########.......", "##########.....#", "###########....#", "############..##",
        "################", "################", "################", "################"};
    private static final String THIRD = "2 2 moveto 14 2 lineto 14 14 lineto closepath 2 14 lineto 9 12 12 6 5 5 curveto ";
    private static final String[] THIRD_ROWS = {
        "................", "................", "..############..", "..############..",
        "..############..", "..###..#######..", "..####..######..", "..#####..#####..",
        "..######.#####..", "..############..", "..######..####..", "..#####....###..",
        "..###.......##..", "..#..........#..", "................", "................"};

    /** Lines and curves in turn, filled as they are, flattened before, and from their ends. */
    private static void pictures() {
        looks(FIRST + "fill", FIRST_ROWS);
        looks(SECOND + "fill", SECOND_ROWS);
        looks("3 setflat " + SECOND + "fill", SECOND_FLATTER);
        looks(THIRD + "fill", THIRD_ROWS);
        looks(FIRST + "flattenpath fill", FIRST_ROWS);
        looks(SECOND + "flattenpath 3 setflat fill", SECOND_ROWS);
        looks(THIRD + "flattenpath fill", THIRD_ROWS);
        looks(FIRST + "flattenpath reversepath fill", FIRST_ROWS);
        looks(THIRD + "flattenpath reversepath fill", THIRD_ROWS);
        looks(FIRST + "gsave newpath grestore fill", FIRST_ROWS);
        // Halving rounds down, so that a curve from its end may differ by a unit: centres lie farther off here.
        looks(SECOND + "reversepath fill", SECOND_ROWS);
        looks(FIRST + "reversepath fill", FIRST_ROWS);
        looks(THIRD + "reversepath fill", THIRD_ROWS);
        looks(THIRD + "reversepath reversepath fill", THIRD_ROWS);
        looks(FIRST + "clip newpath 0 0 moveto 16 0 lineto 16 16 lineto 0 16 lineto fill", FIRST_ROWS);
    }

    /** Paths of every length about those where rows of parts and points are made longer. */
    private static void lengths() {
        for (int n = 1; n <= 70; n++) {
            Probe.depthIs("1 1 moveto " + n + " { 2 2 lineto } repeat closepath", 4, n + 2);
            Probe.depthIs("1 1 moveto " + n + " { 1 1 2 2 3 3 curveto } repeat closepath gsave grestore", 4, n + 2);
            Probe.depthIs("1 1 moveto " + n + " { closepath 2 2 lineto } repeat", 4, 3 * n + 1);
            Probe.depthIs("1 1 moveto " + n + " { closepath 1 1 2 2 3 3 curveto } repeat closepath", 4, 3 * n + 2);
            Probe.depthIs(n + " { 1 1 moveto closepath } repeat", 4, 2 * n);
            Probe.depthIs("1 1 moveto " + n + " { 5 5 2 0 360 arc } repeat", 4, 5 * n + 1);
        }
        String curves = PLAIN + "1 1 moveto 2999 { 1 2 3 4 5 6 curveto } repeat ";
        Probe.depthIs(curves + "gsave newpath grestore", 4, 3000);
        Probe.leaves(curves + "gsave newpath grestore pathbbox reversepath currentpoint",
                "65536u 65536u 327680u 393216u 65536u 65536u");
        Probe.depthIs(curves + "100 setflat flattenpath", 4, 3000);
    }

    /** "reversepath: each subpath from its end to its beginning, in their order; a closed one .." */
    private static void reversed() {
        Probe.leaves(PLAIN + "1 2 moveto reversepath currentpoint", "65536u 131072u");
        Probe.leaves(PLAIN + "1 2 moveto 3 4 lineto reversepath currentpoint reversepath currentpoint",
                "65536u 131072u 196608u 262144u");
        Probe.leaves(PLAIN + "1 2 moveto 3 4 lineto 5 6 lineto closepath reversepath currentpoint", "327680u 393216u");
        Probe.leaves(PLAIN + "1 2 moveto 3 4 lineto 5 6 moveto 7 8 lineto reversepath currentpoint", "327680u 393216u");
        Probe.leaves(PLAIN + "1 2 moveto closepath reversepath currentpoint", "65536u 131072u");
        Probe.depthIs("1 1 moveto 2 2 lineto 1 1 2 2 3 3 curveto closepath 4 4 moveto reversepath", 4, 5);
        Probe.leaves(PLAIN + "1 1 moveto 5 1 lineto 5 5 lineto closepath 7 8 moveto 9 7 lineto 9 9 lineto reversepath currentpoint",
                "458752u 524288u");
        Probe.leaves(PLAIN + "1 1 moveto closepath 7 8 moveto 9 7 lineto 9 9 lineto closepath reversepath currentpoint",
                "589824u 589824u");
        // What was there of a longer path is there no more.
        Probe.leaves(PLAIN + "1 1 moveto 9 { 8 8 lineto } repeat newpath 2 2 moveto 3 3 lineto reversepath currentpoint pathbbox",
                "131072u 131072u 131072u 131072u 196608u 196608u");
        // A line and then a curve become a curve and then a line.
        Probe.leaves(PLAIN + "0 0 moveto 9 9 lineto 9 0 9 0 0 0 curveto reversepath 0 0 moveto pathbbox",
                "0u 0u 589824u 589824u");
    }
}
