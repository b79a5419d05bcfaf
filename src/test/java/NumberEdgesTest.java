/** Part 2, sentence by sentence: numbers at the ends of their kinds, RANGE and UNDEFINED RESULT. */
public final class NumberEdgesTest {
    private static final String UNIT = "0.0000152587890625 ";
    private static final String MOST = "32767.9999847412109375 ";

    public static void main(String[] args) {
        asReals();
        sums();
        products();
        quotients();
        wholeQuotients();
        sameKind();
        roots();
        sines();
        angles();
        conversions();
        bits();
        Probe.finish();
    }

    /** "AS A REAL a whole number is refused (RANGE) unless it is -32767 .. 32767." */
    private static void asReals() {
        String[] one = {"sqrt", "sin", "cos", "cvr", "rotate", "setgray", "setlinewidth", "setflat"};
        for (String op : one) {
            Probe.leaves("32767 " + op + " clear", "");
            Probe.leaves("32768 " + op, "32768 error 4");
            Probe.leaves("-32768 " + op, "-32768 error 4");
            Probe.leaves("2147483647 " + op, "2147483647 error 4");
        }
        for (String op : new String[] {"sin", "cos", "cvr", "rotate", "setgray", "setlinewidth", "setflat"}) {
            Probe.leaves("-32767 " + op + " clear", "");
        }
        String[] two = {"add", "sub", "mul", "div", "atan"};
        for (String op : two) {
            Probe.leaves("-32767 1.0 " + op + " clear", op.equals("sub") ? "-32767 65536u error 4" : "");
            Probe.leaves("-32768 1.0 " + op, "-32768 65536u error 4");
            Probe.leaves("32768 1.0 " + op, "32768 65536u error 4");
            Probe.leaves("0.0 32767 " + op + " clear", "");
            Probe.leaves("0.0 -32768 " + op, "0u -32768 error 4");
            Probe.leaves("0.0 32768 " + op, "0u 32768 error 4");
        }
        // div and atan take two whole numbers as reals, too; comparing takes none as a real.
        Probe.leaves("32768 1 div", "32768 1 error 4");
        Probe.leaves("1 32768 div", "1 32768 error 4");
        Probe.leaves("32768 1 atan", "32768 1 error 4");
        Probe.leaves("1 -32768 atan", "1 -32768 error 4");
        Probe.leaves("32768 " + MOST + "gt -32768 -32767.5 lt 32768 32767.5 eq 2147483647 1.5 ge",
                "true true false true");
    }

    /** "add, sub .. (x y): of two whole numbers whole; otherwise of both as reals" */
    private static void sums() {
        Probe.leaves("2147483646 1 add 2147483647 0 add -2147483647 -1 add",
                "2147483647 2147483647 -2147483648");
        Probe.leaves("2147483647 1 add", "2147483647 1 error 4");
        Probe.leaves("-2147483648 -1 add", "-2147483648 -1 error 4");
        Probe.leaves("2147483647 2147483647 add", "2147483647 2147483647 error 4");
        Probe.leaves("-2147483647 1 sub 2147483646 -1 sub 0 2147483647 sub",
                "-2147483648 2147483647 -2147483647");
        Probe.leaves("-2147483648 1 sub", "-2147483648 1 error 4");
        Probe.leaves("0 -2147483648 sub", "0 -2147483648 error 4");
        Probe.leaves("32767 0.9999847412109375 add -32767 0.9999847412109375 sub",
                "2147483647u -2147483647u");
        Probe.leaves(MOST + UNIT + "add", "2147483647u 1u error 4");
        Probe.leaves("-" + MOST + UNIT + "sub", "-2147483647u 1u error 4");
        Probe.leaves("32767 1.0 add", "32767 65536u error 4");
        Probe.leaves("1 2.0 add 1.0 2 sub 1.0 1.0 add", "196608u -65536u 131072u");
    }

    /** "mul (x y): .. the product rounded" */
    private static void products() {
        Probe.leaves("46340 46340 mul -65536 32768 mul 65536 32767 mul 0 -2147483648 mul",
                "2147395600 -2147483648 2147418112 0");
        Probe.leaves("46341 46341 mul", "46341 46341 error 4");
        Probe.leaves("65536 32768 mul", "65536 32768 error 4");
        Probe.leaves("-2147483648 -1 mul", "-2147483648 -1 error 4");
        Probe.leaves("2147483647 2147483647 mul", "2147483647 2147483647 error 4");
        Probe.leaves(MOST + "1 mul -" + MOST + "1 mul", "2147483647u -2147483647u");
        // 32767.5 (65537 units) is half a unit below 32768: it is rounded there, but not below 0.
        Probe.leaves("32767.5 1.0000152587890625 mul", "2147450880u 65537u error 4");
        Probe.leaves("-32767.5 1.0000152587890625 mul", "-2147483647u");
        Probe.leaves("181 181.0 mul 182 180.0 mul", "2147024896u 2146959360u");
        Probe.leaves("181.5 181.5 mul", "11894784u 11894784u error 4");
        Probe.leaves(UNIT + "0.5 mul -" + UNIT + "0.5 mul " + UNIT + "0.49 mul -" + UNIT + "0.51 mul",
                "1u 0u 0u -1u");
    }

    /** "div (x y): both as reals: the quotient rounded; UNDEFINED RESULT when y is 0." */
    private static void quotients() {
        Probe.leaves("1 0 div", "1 0 error 6");
        Probe.leaves("0 0.0 div", "0 0u error 6");
        Probe.leaves("40000 0 div", "40000 0 error 4");
        Probe.leaves("1 " + UNIT + "div", "65536 1u error 4".replace("65536", "1"));
        Probe.leaves("0.49999 " + UNIT + "div", "2147418112u");
        Probe.leaves("0.5 " + UNIT + "div", "32768u 1u error 4");
        Probe.leaves("-0.5 " + UNIT + "div", "-32768u 1u error 4");
        Probe.leaves(UNIT + "2 div -" + UNIT + "2 div " + UNIT + "-2 div -" + UNIT + "-2 div", "1u 0u 0u 1u");
        Probe.leaves(UNIT + MOST + "div 0 5 div 6 3 div -1 3 div 2 3 div", "0u 0u 131072u -21845u 43691u");
        Probe.leaves(MOST + "1 div -" + MOST + "-1 div " + MOST + "-1 div",
                "2147483647u 2147483647u -2147483647u");
    }

    /** "idiv, mod (whole x y): towards 0, and what is left; UNDEFINED RESULT when y is 0." */
    private static void wholeQuotients() {
        Probe.leaves("7 2 idiv -7 2 idiv 7 -2 idiv -7 -2 idiv 0 5 idiv", "3 -3 -3 3 0");
        Probe.leaves("7 2 mod -7 2 mod 7 -2 mod -7 -2 mod 0 5 mod", "1 -1 1 -1 0");
        Probe.leaves("-2147483648 1 idiv -2147483648 2147483647 idiv 2147483647 -1 idiv",
                "-2147483648 -1 -2147483647");
        Probe.leaves("-2147483648 -1 idiv", "-2147483648 -1 error 4");
        Probe.leaves("-2147483648 -1 mod -2147483648 2147483647 mod 1 -2147483648 mod", "0 -1 1");
        Probe.leaves("1 0 idiv", "1 0 error 6");
        Probe.leaves("0 0 mod", "0 0 error 6");
        Probe.leaves("1.0 1 idiv", "65536u 1 error 3");
        Probe.leaves("1 1.0 mod", "1 65536u error 3");
    }

    /** "neg, abs, ceiling, floor, round (floor of a half more), truncate (x): of the same kind" */
    private static void sameKind() {
        Probe.leaves("2147483647 neg -2147483647 neg -2147483647 abs 0 neg",
                "-2147483647 2147483647 2147483647 0");
        Probe.leaves("-2147483648 neg", "-2147483648 error 4");
        Probe.leaves("-2147483648 abs", "-2147483648 error 4");
        Probe.leaves("-2147483648 ceiling -2147483648 floor 2147483647 round -2147483648 truncate",
                "-2147483648 -2147483648 2147483647 -2147483648");
        Probe.leaves(MOST + "neg -" + MOST + "neg -" + MOST + "abs 0.0 neg",
                "-2147483647u 2147483647u 2147483647u 0u");
        Probe.leaves("32767.0 ceiling 32766.00002 ceiling -32767.99998 ceiling -0.5 ceiling",
                "2147418112u 2147418112u -2147418112u 0u");
        Probe.leaves("32767.00002 ceiling", "2147418113u error 4");
        Probe.leaves("-32767.0 floor 32767.99998 floor -0.00002 floor -32766.00002 floor",
                "-2147418112u 2147418112u -65536u -2147418112u");
        Probe.leaves("-32767.00002 floor", "-2147418113u error 4");
        Probe.leaves("32767.49998 round -32767.5 round 0.5 round -0.5 round 1.5 round -1.5 round -0.50002 round",
                "2147418112u -2147418112u 65536u 0u 131072u -65536u -65536u");
        Probe.leaves("32767.5 round", "2147450880u error 4");
        Probe.leaves("-32767.50002 round", "-2147450881u error 4");
        Probe.leaves(MOST + "truncate -" + MOST + "truncate 0.99998 truncate -0.99998 truncate",
                "2147418112u -2147418112u 0u 0u");
    }

    /** "sqrt (x, as a real): the greatest real whose square is not above it; UNDEFINED RESULT below 0." */
    private static void roots() {
        Probe.leaves("0 sqrt 0.0 sqrt 1 sqrt " + UNIT + "sqrt 0.25 sqrt 2 sqrt", "0u 0u 65536u 256u 32768u 92681u");
        Probe.leaves(MOST + "sqrt 32767 sqrt 0.00003 sqrt", "11863283u 11863102u 362u");
        Probe.leaves("-" + UNIT + "sqrt", "-1u error 6");
        Probe.leaves("-32767 sqrt", "-32767 error 6");
    }

    /** "An angle is brought to 0 .. below 360 by whole turns; from 90 to 180 degrees .." */
    private static void sines() {
        Probe.leaves("0 sin 90 sin 180 sin 270 sin 360 sin -90 sin -360 sin 450 sin",
                "0u 65536u 0u -65536u 0u -65536u 0u 65536u");
        Probe.leaves("0 cos 90 cos 180 cos 270 cos 360 cos -90 cos -180 cos 450 cos",
                "65536u 0u -65536u 0u 65536u 0u -65536u 0u");
        // S[1] is 1144: 28 units make less than half a unit, 29 units more.
        Probe.leaves("0.00042724609375 sin 0.0004425048828125 sin -0.00042724609375 sin -0.0004425048828125 sin",
                "0u 1u 0u -1u");
        Probe.leaves("179.99957275390625 sin 179.9995574951171875 sin 180.00042724609375 sin 180.0004425048828125 sin",
                "0u 1u 0u -1u");
        Probe.leaves("89.9999847412109375 sin 90.0000152587890625 sin 89.9999847412109375 cos 359.9995574951171875 sin",
                "65536u 65536u 0u -1u");
        Probe.leaves("32767 sin -32767 sin 32767 cos -32767 cos", "7987u -7987u 65048u 65048u");
        Probe.leaves(MOST + "sin -" + MOST + "sin " + MOST + "cos -" + MOST + "cos", "9121u -9121u 64898u 64898u");
        // Every whole degree of a quarter, from both sides.
        Probe p = new Probe();
        p.run("0 1 90 { dup sin exch 180 exch sub sin ne { stop } if } for");
        Probe.due("sines beyond 90 degrees are those before it", p.machine.depth(0), 0);
        p.run("0 1 90 { sin } for");
        long sum = 0;
        long weighed = 0;
        for (int d = 0; d <= 90; d++) {
            sum += p.machine.numberOf(90 - d);
            weighed += (long) d * p.machine.numberOf(90 - d);
        }
        Probe.due("the sum of the document's sines", sum, 3787608);
        Probe.due("weighed by their degrees", weighed, 218096459);
    }

    /** "The ANGLE of a point .. 0 when y is 0, 90 degrees when x is 0" */
    private static void angles() {
        Probe.leaves("0 0 atan", "0 0 error 6");
        Probe.leaves("0.0 0 atan", "0u 0 error 6");
        Probe.leaves("0 1 atan 0 " + UNIT + "atan 1 0 atan 0 -1 atan 0 -" + UNIT + "atan -1 0 atan",
                "0u 0u 5898240u 11796480u 11796480u 17694720u");
        Probe.leaves(UNIT + MOST + "atan " + MOST + UNIT + "atan -" + UNIT + MOST + "atan",
                "28u 5898211u 23592932u");
        Probe.leaves(MOST + "-" + UNIT + "atan -" + MOST + "-" + UNIT + "atan -" + UNIT + "-" + MOST + "atan",
                "5898269u 17694691u 11796508u");
        Probe.leaves(UNIT + "-" + MOST + "atan -" + MOST + UNIT + "atan", "11796452u 17694749u");
        Probe.leaves("1 1 atan -1 1 atan 1 -1 atan -1 -1 atan", "2949120u 20643840u 8847360u 14745600u");
        Probe.leaves("1 2 atan 3 4 atan " + MOST + "32767.99997 atan", "1740959u 2416282u 2949160u");
    }

    /** "cvi: towards 0; cvr: as a real", and in part 6 that texts are taken, and which. */
    private static void conversions() {
        Probe.leaves(MOST + "cvi -" + MOST + "cvi 0.99998 cvi -0.99998 cvi 2147483647 cvi",
                "32767 -32767 0 0 2147483647");
        Probe.leaves("32767 cvr -32767 cvr 1.5 cvr", "2147418112u -2147418112u 98304u");
        Probe.leaves("(2147483647) cvi (-2147483648) cvi (16#ffffffff) cvi (-1.99) cvi (1e1) cvi",
                "2147483647 -2147483648 -1 -1 10");
        Probe.leaves("(2147483648) cvi", "(2147483648) error 4");
        Probe.leaves("(16#100000000) cvi", "(16#100000000) error 4");
        Probe.leaves("(32768.0) cvi", "(32768.0) error 4");
        Probe.leaves("(32767) cvr (-32767) cvr (32767.99998) cvr", "2147418112u -2147418112u 2147483647u");
        Probe.leaves("(32768) cvr", "(32768) error 4");
        Probe.leaves("(32768.0) cvr", "(32768.0) error 4");
        for (String text : new String[] {"", " 1", "1 ", "a", "1a", "+", "1%", "(1)", "/1", "-"}) {
            Probe.leaves("(" + text + ") cvi", "(" + text + ") error 3");
            Probe.leaves("(" + text + ") cvr", "(" + text + ") error 3");
        }
        Probe.leaves("(" + "0".repeat(126) + "7) cvi (" + "0".repeat(126) + "7) cvr", "7 458752u");
        Probe.leaves("(" + "0".repeat(127) + "7) cvi length", "(" + "0".repeat(127) + "7) error 3");
        // A part of a text is that part alone.
        Probe.leaves("(55) 0 1 getinterval cvi (1.5) 0 1 getinterval cvi (1.5) 0 2 getinterval cvr (16#ff) 0 4 getinterval cvi",
                "5 1 65536u 15");
        Probe.leaves("(+5) 0 0 getinterval cvi", "() error 3");
        Probe.leaves("(1e5) 0 2 getinterval cvi", "(1e) error 3");
        Probe.leaves("(1e+5) 0 3 getinterval cvr", "(1e+) error 3");
        Probe.leaves("(1e+5) 0 2 getinterval cvr", "(1e) error 3");
        Probe.leaves("(1e-5) 0 2 getinterval cvi", "(1e) error 3");
        Probe.leaves("(16#ff) 0 3 getinterval cvi", "(16#) error 3");
        Probe.leaves("(x5y) 1 1 getinterval cvi", "5");
        // A text of more than a row is none, though it would be fault 5 else.
        Probe.leaves("(" + "9".repeat(128) + ") cvi", "(" + "9".repeat(128) + ") error 3");
        Probe.leaves("true cvi", "true error 3");
        Probe.leaves("/1 cvr", "/1 error 3");
    }

    /** "bitshift (whole x n: its 32 bits n places up ..; -n down without sign; 0 from 32 places on)" */
    private static void bits() {
        Probe.leaves("1 31 bitshift 3 31 bitshift 1 32 bitshift 1 33 bitshift 1 2147483647 bitshift",
                "-2147483648 -2147483648 0 0 0");
        Probe.leaves("-1 -31 bitshift -1 -32 bitshift -1 -33 bitshift -1 -2147483648 bitshift",
                "1 0 0 0");
        Probe.leaves("-1 1 bitshift -1 -1 bitshift -2147483648 1 bitshift 5 0 bitshift",
                "-2 2147483647 0 5");
        Probe.leaves("2147483647 -2147483648 and 2147483647 -2147483648 or -1 -1 xor 2147483647 not",
                "0 -1 0 -2147483648");
        Probe.leaves("true true and true false xor false false or false not", "true true false true");
        for (String op : new String[] {"and", "or", "xor"}) {
            Probe.leaves("1 true " + op, "1 true error 3");
            Probe.leaves("true 1 " + op, "true 1 error 3");
            Probe.leaves("1.0 1 " + op, "65536u 1 error 3");
            Probe.leaves("null null " + op, "null null error 3");
        }
        Probe.leaves("1.0 not", "65536u error 3");
        Probe.leaves("1.0 1 bitshift", "65536u 1 error 3");
        Probe.leaves("1 1.0 bitshift", "1 65536u error 3");
    }
}
