/** Part 2: what operators do with numbers. */
public final class NumbersTest {
    public static void main(String[] args) {
        sums();
        quotients();
        changes();
        functions();
        angles();
        bits();
        conversions();
        Probe.finish();
    }

    private static void sums() {
        Probe.tells("1 2 add = 1 2 sub = 3 -4 mul =", "3 -1 -12");
        Probe.tells("1 2.5 add = 1.5 1 sub = 0.5 0.5 mul =", "3.50000 0.50000 0.25000");
        Probe.tells("2147483647 1 add", "error 4");
        Probe.tells("-2147483648 1 sub", "error 4");
        Probe.tells("65536 32768 mul", "error 4");
        Probe.tells("32767.5 0.5 add", "error 4");
        Probe.tells("-32767.5 0.5 sub", "error 4");
        Probe.tells("40000 0.5 add", "error 4");
        Probe.tells("-32768 1.0 mul", "error 4");
        Probe.tells("-32767 1.0 mul =", "-32767.00000");
        Probe.tells("200 200.0 mul", "error 4");
        Probe.tells("add", "error 1");
        Probe.tells("1 add", "error 1");
        Probe.tells("(a) 1 add", "error 3");
        Probe.tells("1 true add", "error 3");
        // Three units and a half of that: a half of a unit more is the greatest that is let.
        Probe p = new Probe();
        p.run("0.000045776367 0.5 mul -0.000045776367 0.5 mul");
        Probe.due("half of three units", p.machine.numberOf(1), 2);
        Probe.due("below 0", p.machine.numberOf(0), -1);
    }

    private static void quotients() {
        Probe.tells("1 3 div = -1 3 div = 7 -2 div =", "0.33333 -0.33333 -3.50000");
        Probe.tells("1 0 div", "error 6");
        Probe.tells("40000 0 div", "error 4");
        Probe.tells("30000 0.5 div", "error 4");
        Probe.tells("7 2 idiv = -7 2 idiv = 7 -2 idiv = -7 2 mod = 7 -2 mod =", "3 -3 -3 -1 1");
        Probe.tells("-2147483648 -1 idiv", "error 4");
        Probe.tells("-2147483648 -1 mod =", "0");
        Probe.tells("5 0 idiv", "error 6");
        Probe.tells("5 0 mod", "error 6");
        Probe.tells("5.0 2 idiv", "error 3");
        Probe p = new Probe();
        p.run("1 3 div 2 3 div -1 3 div");
        Probe.due("a third", p.machine.numberOf(2), 21845);
        Probe.due("two thirds", p.machine.numberOf(1), 43691);
        Probe.due("a third below 0", p.machine.numberOf(0), -21845);
    }

    private static void changes() {
        Probe.tells("5 neg = -5 abs = 5 ceiling = 5 floor = 5 round = 5 truncate =", "-5 5 5 5 5 5");
        Probe.tells("1.5 neg = -1.5 abs =", "-1.50000 1.50000");
        Probe.tells("1.2 ceiling = -1.2 ceiling = 1.8 floor = -1.2 floor =",
                "2.00000 -1.00000 1.00000 -2.00000");
        Probe.tells("1.5 round = -1.5 round = -1.6 round = 1.4 round =",
                "2.00000 -1.00000 -2.00000 1.00000");
        Probe.tells("1.8 truncate = -1.8 truncate =", "1.00000 -1.00000");
        Probe.tells("-2147483648 neg", "error 4");
        Probe.tells("-2147483648 abs", "error 4");
        Probe.tells("32767.5 ceiling", "error 4");
        Probe.tells("32767.5 round", "error 4");
        Probe.tells("-32767.5 floor", "error 4");
        Probe.tells("-32767.5 round =", "-32767.00000");
        Probe.tells("true neg", "error 3");
    }

    private static void functions() {
        Probe.tells("4 sqrt = 2 sqrt = 0 sqrt =", "2.00000 1.41420 0.00000");
        Probe.tells("-1 sqrt", "error 6");
        Probe.tells("40000 sqrt", "error 4");
        Probe.tells("0 sin = 30 sin = 90 sin = 180 sin = 270 sin = -30 sin = 750 sin =",
                "0.00000 0.50000 1.00000 0.00000 -1.00000 -0.50000 0.50000");
        Probe.tells("0 cos = 60 cos = 90 cos = 180 cos = 360 cos =",
                "1.00000 0.50000 0.00000 -1.00000 1.00000");
        Probe p = new Probe();
        p.run("0.5 sin 89.5 sin 120.25 sin 359.5 sin 45 cos 40000 { sin } stopped");
        Probe.due("sine of 0.5", p.machine.numberOf(6), 572);
        Probe.due("sine of 89.5", p.machine.numberOf(5), 65531);
        Probe.due("sine of 120.25", p.machine.numberOf(4), 56611);
        Probe.due("sine of 359.5", p.machine.numberOf(3), -572);
        Probe.due("cosine of 45", p.machine.numberOf(2), 46341);
    }

    private static void angles() {
        Probe.tells("0 1 atan = 1 0 atan = 0 -1 atan = -1 0 atan =",
                "0.00000 90.00000 180.00000 270.00000");
        Probe.tells("1 1 atan = 1 -1 atan = -1 -1 atan = -1 1 atan =",
                "45.00000 135.00000 225.00000 315.00000");
        Probe.tells("0 0 atan", "error 6");
        Probe.tells("40000 0 atan", "error 4");
        Probe.tells("1 2 atan = 3 1 atan =", "26.56493 71.56503");
        // Between the greatest angle that is too small and the least one that is too great.
        Probe p = new Probe();
        p.run("-.00001525878 32767 atan .00001525878 32767 atan");
        Probe.due("just below", p.machine.numberOf(1), 360 * 65536 - 28);
        Probe.due("just above", p.machine.numberOf(0), 28);
    }

    private static void bits() {
        Probe.tells("12 10 and = 12 10 or = 12 10 xor = 0 not =", "8 14 6 -1");
        Probe.tells("true false and = true false or = true true xor = true not =",
                "false true false false");
        Probe.tells("1 true and", "error 3");
        Probe.tells("1.0 1 or", "error 3");
        Probe.tells("1.0 not", "error 3");
        Probe.tells("1 31 bitshift = 3 31 bitshift = 1 32 bitshift = -1 -28 bitshift = -1 -32 bitshift =",
                "-2147483648 -2147483648 0 15 0");
        Probe.tells("5 -2147483648 bitshift = 5 0 bitshift =", "0 5");
    }

    private static void conversions() {
        Probe.tells("1.9 cvi = -1.9 cvi = 7 cvi = (12) cvi = (-3.9) cvi = (16#ff) cvi =",
                "1 -1 7 12 -3 255");
        Probe.tells("5 cvr = 2.5 cvr = (7) cvr = (1e1) cvr =", "5.00000 2.50000 7.00000 10.00000");
        Probe.tells("40000 cvr", "error 4");
        Probe.tells("(40000) cvr", "error 4");
        Probe.tells("(2147483648) cvi", "error 4");
        Probe.tells("(40000.0) cvi", "error 4");
        Probe.tells("( 1) cvi", "error 3");
        Probe.tells("() cvi", "error 3");
        Probe.tells("(abc) cvr", "error 3");
        Probe.tells("/1 cvi", "error 3");
        Probe.tells("(" + "0".repeat(127) + ") cvi =", "0");
        Probe.tells("(" + "0".repeat(128) + ") cvi =", "error 3");
    }
}
