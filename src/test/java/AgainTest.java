/** "load() makes all new but the page's size": what one program took is there again for the next one. */
public final class AgainTest {
    public static void main(String[] args) {
        store();
        names();
        changes();
        saves();
        work();
        stacks();
        graphics();
        manyLoads();
        Probe.finish();
    }

    /** Runs a program that takes nearly all of something, again and again. */
    private static void again(String program) {
        Probe p = new Probe();
        for (int n = 0; n < 3; n++) {
            Probe.due("run " + n + " of " + program, p.run(program), 0);
        }
    }

    private static void store() {
        again("16000 { 0 array pop } repeat");
        again("32000 array pop");
        again("65000 string pop");
        again("1000 { 0 dict pop } repeat");
        again("0 1 16000 { 0 def } for");
        again("0 1 300 { 0 def } for currentdict length 301 ne { stop } if");
        Probe p = new Probe();
        p.run("0 1 300 { 0 def } for");
        Probe.due("no keys are left", p.left("currentdict length 5 where 300 where"), "0 false false");
        p.run("[ 7 8 9 ] (abc)");
        Probe.due("new places are null", p.left("3 array aload pop 3 string"), "null null null (\0\0\0)");
    }

    private static void names() {
        again("/t 8 string def 0 1 8000 { t cvs cvn pop } for");
        again("/t 127 string def 0 1 1000 { t cvs pop t cvn pop } for");
        // Names that are there no more, and come again.
        Probe p = new Probe();
        p.run("/one 1 def /two 2 def one two");
        Probe.due("the same names", p.left("/two 5 def /one 6 def one two"), "6 5");
        Probe.due("in another order", p.left("/one 7 def /three 8 def three one (two) where"), "8 7 false");
    }

    /** What was remembered for a save of the program before is nothing to this one. */
    private static void changes() {
        again("/a 20000 array def save 0 1 19999 { a exch 1 put } for save 0 1 19999 { a exch 1 put } for clear");
        Probe p = new Probe();
        p.run("/a [ 1 ] def /k 1 def save a 0 2 put /k 2 def");
        Probe.due("places and keys go back", p.left("/a [ 1 ] def /k 1 def save a 0 2 put /k 2 def restore a 0 get k"),
                "1 1");
        p.run("/a [ 1 ] def /k 1 def save pop save pop a 0 2 put /k 2 def");
        Probe.due("also behind two saves", p.left("/a [ 1 ] def /k 1 def save save pop a 0 2 put /k 2 def restore a 0 get k"),
                "1 1");
    }

    private static void saves() {
        again("12 { save } repeat clear");
        Probe p = new Probe();
        p.run("save save");
        Probe.due("a new first one", p.left("save dup restore"), "save1");
    }

    private static void work() {
        again("{ 40000000 string } stopped clear");
        Probe p = new Probe();
        p.run("{ 40000001 string } stopped clear");
        Probe.due("no error is left", p.left("lasterror"), "0");
    }

    private static void stacks() {
        again(Probe.full(500));
        again("18 { 0 dict begin } repeat");
        again("/f { f 1 } def { f } stopped clear");
        again("32768 string dup print print");
        Probe p = new Probe();
        p.run("1 dict begin 7 8");
        Probe.due("all stacks empty", p.left("count countdictstack"), "0 2");
    }

    private static void graphics() {
        again("12 { gsave } repeat");
        again("0 0 moveto 2999 { 1 1 lineto } repeat");
        Probe p = new Probe();
        p.run("5 5 translate 1 1 moveto 0.5 setgray 7 setlinewidth clip gsave "
                + "<< /FontMatrix matrix /BuildGlyph { } >> dup setfont /F exch definefont pop");
        Probe.due("the first graphics", p.left("6 array currentmatrix aload pop currentgray currentlinewidth currentfont"),
                "65536u 0u 0u -65536u 0u 1048576u 0u 65536u null");
        Probe.due("no path", p.left("currentpoint"), "error 13");
        Probe.due("no font", p.left("/F findfont"), "/F error 16");
        Probe.due("all pixels", p.machine.depth(5), 256);
    }

    /** Names of many programs, one after the other, do not disturb those of the operators. */
    private static void manyLoads() {
        String[] operators = {"add", "sub", "mul", "exec", "if", "pop", "dup", "eq", "array", "get", "dict", "def", "matrix",
            "moveto", "setgray", "fill", "show", "true", "gsave", "=", "]", ">>", "atan", "restore", "stroke", "ifelse"};
        Probe p = null;
        for (int n = 0; n < 600; n++) {
            // An object is good for 512 calls.
            p = n % 25 == 0 ? new Probe() : p;
            String operator = operators[n % operators.length];
            String names = "/x" + n + " /y" + n * 7 + " /z" + n * n;
            Probe.due("load " + n, p.load("(" + operator + ") where " + names + " 1 2 add"), 0);
            p.machine.run(9);
            Probe.due(operator + " is known behind load " + n, p.machine.kindOf(4), 2);
            Probe.due("names of load " + n, p.operand(1), "/z" + n * n);
            Probe.due("the sum of load " + n, p.machine.numberOf(0), 3);
        }
    }
}
