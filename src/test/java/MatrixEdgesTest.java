/** Part 8, its first half: matrices, the INVERSE, and what is moved, at the ends of the reals. */
public final class MatrixEdgesTest {
    private static final String UNIT = "0.0000152587890625 ";
    private static final String MOST = "32767.9999847412109375 ";

    public static void main(String[] args) {
        asValues();
        firstMatrix();
        currentMatrix();
        movedOnce();
        movedBeyondReals();
        before();
        beforeBeyondReals();
        inverses();
        withoutInverse();
        inversesBeyondReals();
        Probe.finish();
    }

    /** "(RANGE for other lengths, then TYPECHECK when one is none, then as reals)" */
    private static void asValues() {
        for (String op : new String[] {"setmatrix", "concat"}) {
            Probe.leaves("[ 1 0 0 1 0 0 ] " + op + " { 1 0 0 1 0 0 } " + op, "");
            Probe.leaves("[ 1 0 0 1 0 ] " + op, "[5] error 4");
            Probe.leaves("[ 1 0 0 1 0 0 0 ] " + op, "[7] error 4");
            Probe.leaves("[ ] " + op, "[0] error 4");
            Probe.leaves("[ null null ] " + op, "[2] error 4");
            Probe.leaves("[ 1 0 0 1 0 null ] " + op, "[6] error 3");
            Probe.leaves("{ x 0 0 1 0 0 } " + op, "{6} error 3");
            Probe.leaves("[ 40000 0 0 1 0 null ] " + op, "[6] error 3");
            Probe.leaves("[ 32768 0 0 1 0 0 ] " + op, "[6] error 4");
            Probe.leaves("[ 1 0 0 1 0 -32768 ] " + op, "[6] error 4");
            Probe.leaves("(abcdef) " + op, "(abcdef) error 3");
        }
        Probe.leaves("[ 32767 -32767 32767 -32767 32767 -32767 ] setmatrix 0 0 transform", "2147418112u -2147418112u");
        Probe.leaves("[ 1 0 0 1 0 0 ] setmatrix [ " + MOST + "0 0 -" + MOST + "0 0 ] concat 1 1 transform",
                "2147483647u -2147483647u");
    }

    /** "THE MATRIX is at first 1 0 0 -1 0 and the page's height." */
    private static void firstMatrix() {
        Probe p = new Probe(3, 256);
        Probe.due("256 rows", p.left("6 array currentmatrix aload pop"), "65536u 0u 0u -65536u 0u 16777216u");
        Probe.due("one row", new Probe(9, 1).left("6 array currentmatrix aload pop"),
                "65536u 0u 0u -65536u 0u 65536u");
        Probe.leaves("matrix aload length", "65536u 0u 0u 65536u 0u 0u 6");
        Probe.leaves("matrix matrix eq", "false");
    }

    /** "currentmatrix (array or procedure of six places, RANGE for others): .. it comes back" */
    private static void currentMatrix() {
        Probe.leaves("/p { 1 2 3 4 5 6 } def /p load currentmatrix /p load eq p", "true 65536u 0u 0u -65536u 0u 1048576u");
        Probe.leaves("5 array currentmatrix", "[5] error 4");
        Probe.leaves("7 array currentmatrix", "[7] error 4");
        Probe.leaves("{ } currentmatrix", "{0} error 4");
        Probe.leaves("(abcdef) currentmatrix", "(abcdef) error 3");
    }

    /** "it moves (x, y) to (x a + y c + e, x b + y d + f), each the exact sum, ROUNDED once" */
    private static void movedOnce() {
        String halves = "[ 0.5 0.5 0.5 -0.5 0 0 ] setmatrix ";
        Probe.leaves(halves + UNIT + "0 transform", "1u 1u");
        Probe.leaves(halves + "0 " + UNIT + "transform", "1u 0u");
        Probe.leaves(halves + UNIT + UNIT + "transform", "1u 0u");
        Probe.leaves(halves + "-" + UNIT + "0 transform", "0u 0u");
        Probe.leaves(halves + "-" + UNIT + "-" + UNIT + "transform", "-1u 0u");
        Probe.leaves(halves + UNIT + UNIT + "dtransform -" + UNIT + "0 dtransform", "1u 0u 0u 0u");
        Probe.leaves("[ 1 2 3 4 5 6 ] setmatrix 1 1 transform 1 1 dtransform", "589824u 786432u 262144u 393216u");
        Probe.leaves("[ 1 2 3 5 9 9 ] setmatrix 7 11 dtransform 7 11 transform", "2621440u 4521984u 3211264u 5111808u");
        Probe.leaves("[ 1 2 3 5 9 9 ] setmatrix 49 78 itransform", "458752u 720896u");
        Probe.leaves("[ 1 2 3 4 5 6 ] setmatrix 0 0 transform 0 0 dtransform", "327680u 393216u 0u 0u");
    }

    /** "What is no real then is RANGE (of whatever is moved ..)" */
    private static void movedBeyondReals() {
        String one = "[ 1 0 0 1 0 0 ] setmatrix ";
        Probe.leaves(one + MOST + "-" + MOST + "transform", "2147483647u -2147483647u");
        Probe.leaves("[ 1 0 0 1 " + UNIT + "0 ] setmatrix " + MOST + "0 transform", "2147483647u 0 error 4");
        Probe.leaves("[ 1 0 0 1 0 -" + UNIT + "] setmatrix 0 -" + MOST + "transform", "0 -2147483647u error 4");
        Probe.leaves("[ 1 0 0 1 -" + UNIT + UNIT + "] setmatrix " + MOST + "-" + MOST + "transform",
                "2147483646u -2147483646u");
        Probe.leaves("[ 1 0 0 1 32767 0 ] setmatrix " + MOST + "0 dtransform", "2147483647u 0u");
        Probe.leaves("[ 2 0 0 1 0 0 ] setmatrix 16384 0 transform", "16384 0 error 4");
        Probe.leaves("[ 2 0 0 1 0 0 ] setmatrix 16384 0 dtransform", "16384 0 error 4");
        Probe.leaves("[ 1 0 0 2 0 0 ] setmatrix 0 -16384 dtransform", "0 -16384 error 4");
        Probe.leaves("[ 2 0 0 1 0 0 ] setmatrix 16383.99998 0 transform", "2147483646u 0u");
        // Sums that leave 64 bits are beyond all reals as well, to either side.
        String greatest = "[ " + MOST + MOST + MOST + MOST + MOST + MOST + "] setmatrix ";
        Probe.leaves(greatest + MOST + MOST + "transform", "2147483647u 2147483647u error 4");
        Probe.leaves(greatest + "-" + MOST + "-" + MOST + "transform", "-2147483647u -2147483647u error 4");
        Probe.leaves(greatest + MOST + "-" + MOST + "transform", "2147483647u 2147483647u");
        Probe.leaves(greatest + MOST + MOST + "dtransform", "2147483647u 2147483647u error 4");
        Probe.leaves("40000 0 transform", "40000 0 error 4");
        Probe.leaves("0 40000 dtransform", "0 40000 error 4");
    }

    /** "M BEFORE N": translate, scale, rotate, concat. */
    private static void before() {
        String one = "[ 2 3 5 7 11 13 ] setmatrix ";
        String tell = " 6 array currentmatrix aload pop";
        Probe.leaves(one + "1 10 translate" + tell, "131072u 196608u 327680u 458752u 4128768u 5636096u");
        Probe.leaves(one + "2 -1 scale" + tell, "262144u 393216u -327680u -458752u 720896u 851968u");
        Probe.leaves(one + "90 rotate" + tell, "327680u 458752u -131072u -196608u 720896u 851968u");
        Probe.leaves(one + "180 rotate" + tell, "-131072u -196608u -327680u -458752u 720896u 851968u");
        Probe.leaves(one + "-90 rotate" + tell, "-327680u -458752u 131072u 196608u 720896u 851968u");
        Probe.leaves(one + "[ 1 2 3 4 5 6 ] concat" + tell, "786432u 1114112u 1703936u 2424832u 3342336u 4587520u");
        Probe.leaves(one + "0 0 scale" + tell, "0u 0u 0u 0u 720896u 851968u");
        Probe.leaves(one + "0 0 translate 1 1 scale 0 rotate 360 rotate" + tell,
                "131072u 196608u 327680u 458752u 720896u 851968u");
        // Each is rounded once, halves go up.
        Probe.leaves("[ 0.5 0 0 0.5 0 0 ] setmatrix [ " + UNIT + "-" + UNIT + "-" + UNIT + UNIT + UNIT + "-" + UNIT
                + "] concat" + tell, "1u 0u 0u 1u 1u 0u");
    }

    /** ".. or put before another one": RANGE, and THE MATRIX is as before. */
    private static void beforeBeyondReals() {
        String tell = " } stopped clear 6 array currentmatrix aload pop";
        String left = "131072u 0u 0u 131072u 65536u 0u";
        String two = "[ 2 0 0 2 1 0 ] setmatrix { ";
        Probe.leaves(two + "16384 1 scale" + tell, left);
        Probe.leaves(two + "1 -16384 scale" + tell, left);
        Probe.leaves(two + "16383.5 0 translate" + tell, left);
        Probe.leaves(two + "0 16384 translate" + tell, left);
        Probe.leaves(two + "[ 1 0 0 1 0 -16384 ] concat" + tell, left);
        Probe.leaves("[ 2 0 0 2 1 0 ] setmatrix 16383.5 0 translate", "1073709056u 0 error 4");
        Probe.leaves("[ 2 0 0 2 1 0 ] setmatrix 16383.49998 0 translate", "");
        Probe.leaves("[ 2 0 0 2 1 0 ] setmatrix 16384 1 scale", "16384 1 error 4");
        Probe.leaves("[ 2 0 0 2 1 0 ] setmatrix 16383.99998 -16383.99998 scale", "");
        Probe.leaves("[ 32767 32767 -32767 32767 0 0 ] setmatrix 45 rotate", "45 error 4");
        // Each of the six may be the one that is no real.
        Probe.leaves("[ 200 0 0 1 0 0 ] setmatrix [ 200 0 0 1 0 0 ] concat", "[6] error 4");
        Probe.leaves("[ 1 0 0 200 0 0 ] setmatrix [ 1 200 0 1 0 0 ] concat", "[6] error 4");
        Probe.leaves("[ 200 0 0 1 0 0 ] setmatrix [ 1 0 200 1 0 0 ] concat", "[6] error 4");
        Probe.leaves("[ 1 0 0 200 0 0 ] setmatrix [ 1 0 0 200 0 0 ] concat", "[6] error 4");
        Probe.leaves("[ 200 0 0 1 0 0 ] setmatrix [ 1 0 0 1 200 0 ] concat", "[6] error 4");
        Probe.leaves("[ 1 0 0 200 0 0 ] setmatrix [ 1 0 0 1 0 200 ] concat", "[6] error 4");
        Probe.leaves("1 40000 scale", "1 40000 error 4");
        Probe.leaves("40000 1 translate", "40000 1 error 4");
    }

    /** "The INVERSE, for D = a d - b c exactly ..: d / D, -b / D, .. each ROUNDED once" */
    private static void inverses() {
        Probe.leaves("[ 2 0 0 4 1 2 ] setmatrix 5 10 itransform", "131072u 131072u");
        Probe.leaves("[ 3 0 0 3 0 0 ] setmatrix 1 0 itransform", "21845u 0u");
        Probe.leaves("[ 3 0 0 3 0 0 ] setmatrix 2 -2 itransform", "43690u -43690u");
        Probe.leaves("[ 1.5 0 0 1.5 0 0 ] setmatrix 1 -1 itransform", "43691u -43691u");
        Probe.leaves("[ 3 1 1 3 7 -9 ] setmatrix 0 0 itransform", "-245760u 278528u");
        Probe.leaves("[ 1 2 3 5 8 13 ] setmatrix 1 1 transform itransform", "65536u 65536u");
        Probe.leaves("[ -1 0 0 1 0.5 0 ] setmatrix 1 1 itransform", "-32768u 65536u");
        Probe.leaves("[ 0 1 1 0 0 0 ] setmatrix 3 4 itransform", "262144u 196608u");
        // Halves of a unit go up in each of the six.
        Probe.leaves("[ 2 0 0 2 " + UNIT + "-" + UNIT + "] setmatrix 0 0 itransform", "0u 1u");
        Probe.leaves("[ 2 0 0 2 -" + UNIT + UNIT + "] setmatrix 0 0 itransform", "1u 0u");
        Probe.leaves("[ 2 0 0 -2 " + UNIT + UNIT + "] setmatrix 0 0 itransform", "0u 1u");
    }

    /** "not 0 (UNDEFINED RESULT)" */
    private static void withoutInverse() {
        String[] flat = {"[ 0 0 0 0 0 0 ]", "[ 1 2 2 4 0 0 ]", "[ 0 1 0 1 5 5 ]", "[ 1 1 1 1 0 0 ]", "[ 0 0 0 1 0 0 ]"};
        for (String matrix : flat) {
            Probe.leaves(matrix + " setmatrix 1 1 itransform", "1 1 error 6");
            Probe.leaves("1 1 moveto " + matrix + " setmatrix currentpoint", "error 6");
            Probe.leaves("1 1 moveto " + matrix + " setmatrix pathbbox", "error 6");
            Probe.leaves(matrix + " setmatrix 0 0 moveto 1 1 lineto 1 1 transform clear", "");
        }
        // As near to none as can be: D is one unit's unit.
        Probe.leaves("[ 1 1.0000152587890625 0.9999847412109375 1 0 0 ] setmatrix 0 0 itransform", "0 0 error 4");
        // NO CURRENT POINT comes before it.
        Probe.leaves("0 1 scale currentpoint", "error 13");
        Probe.leaves("0 1 scale pathbbox", "error 13");
    }

    /** An INVERSE whose elements are no reals. */
    private static void inversesBeyondReals() {
        // 65536 / 2 is no real any more, 65536 / 3 is one.
        Probe.leaves("[ 0.000030517578125 0 0 1 0 0 ] setmatrix 0 0 itransform", "0 0 error 4");
        Probe.leaves("[ 0.0000457763671875 0 0 1 0 0 ] setmatrix 0 0 itransform", "0u 0u");
        Probe.leaves("[ 1 0 0 0.000030517578125 0 0 ] setmatrix 0 0 itransform", "0 0 error 4");
        Probe.leaves("[ 0.07 200 0 0.07 0 0 ] setmatrix 0 0 itransform", "0 0 error 4");
        Probe.leaves("[ 0.07 0 200 0.07 0 0 ] setmatrix 0 0 itransform", "0 0 error 4");
        Probe.leaves("[ 0.08 200 0 0.08 0 0 ] setmatrix 0 0 itransform", "0u 0u");
        Probe.leaves("[ 0.5 0 0 1 16384 0 ] setmatrix 0 0 itransform", "0 0 error 4");
        Probe.leaves("[ 0.5 0 0 1 16383.99998 0 ] setmatrix 0 0 itransform", "-2147483646u 0u");
        Probe.leaves("[ 1 0 0 0.5 0 -16384 ] setmatrix 0 0 itransform", "0 0 error 4");
        Probe.leaves("[ 0.5 0 0 0.5 0 0 ] setmatrix 16384 0 itransform", "16384 0 error 4");
        Probe.leaves("[ 0.5 0 0 0.5 0 0 ] setmatrix 16383.99998 0 itransform", "2147483646u 0u");
        Probe.leaves("[ 1 0 0 1 0 0 ] setmatrix 1 1 moveto [ 0.000030517578125 0 0 1 0 0 ] setmatrix currentpoint",
                "error 4");
        Probe.leaves("[ 1 0 0 1 0 0 ] setmatrix 8192 0 moveto [ 0.25 0 0 1 0 0 ] setmatrix currentpoint", "error 4");
        Probe.leaves("[ 1 0 0 1 0 0 ] setmatrix 8191.99998 0 moveto [ 0.25 0 0 1 0 0 ] setmatrix currentpoint",
                "2147483644u 0u");
        Probe.leaves("[ 1 0 0 1 0 0 ] setmatrix 0 0 moveto 8192 0 lineto [ 0.25 0 0 1 0 0 ] setmatrix pathbbox",
                "error 4");
        Probe.leaves("[ 1 0 0 1 0 0 ] setmatrix 0 0 moveto 0 -8192 lineto [ 1 0 0 0.25 0 0 ] setmatrix pathbbox",
                "error 4");
        Probe.leaves("40000 1 itransform", "40000 1 error 4");
    }
}
