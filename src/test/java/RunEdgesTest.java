/** Part 10 and the promises 1 to 16: what is refused at the face, and the last case that is taken. */
public final class RunEdgesTest {
    private static final int[] FAR = {Integer.MIN_VALUE, -1, Integer.MAX_VALUE};

    public static void main(String[] args) {
        newObjects();
        feeds();
        ends();
        loads();
        loadsMakeAllNew();
        faultsMakeAllNew();
        placesOfFaults();
        programsWithoutWords();
        fuels();
        runsGoOn();
        stepsAndErrors();
        depths();
        operandsOfEachKind();
        operandsThatAreNone();
        bytesOfOperands();
        pixels();
        counts();
        outputs();
        Probe.finish();
    }

    /** Promise 1: ".. an empty tape, no program"; part 10: "(So it is at first, too.)" */
    private static void newObjects() {
        PageMachine x = new PageMachine(7, 5);
        asNew("a new object", x, 35);
        Probe.due("no program", x.run(0), -1);
        Probe.due("no fault", x.place(), 0);
        Probe.due("no tape", x.end(19), -1);
        Probe.due("an empty tape is a program", x.load(), 0);
        Probe.due("without bytes", x.place(), 0);
    }

    private static void asNew(String what, PageMachine x, int pixels) {
        int[] depths = {0, 2, 0, 0, 0, pixels};
        for (int i = 0; i < 6; i++) {
            Probe.due(what + ": depth " + i, x.depth(i), depths[i]);
        }
        Probe.due(what + ": steps", x.steps(), 0);
        Probe.due(what + ": error", x.error(), 0);
        Probe.due(what + ": output", x.output(), 0);
        Probe.due(what + ": no byte", x.outputAt(0), -1);
        Probe.due(what + ": kind", x.kindOf(0), -1);
        Probe.due(what + ": number", x.numberOf(0), 0);
        Probe.due(what + ": byte", x.byteOf(0, 0), -1);
        Probe.due(what + ": gray", x.gray(0, 0), 255);
        Probe.due(what + ": row", x.count(0, 255), 7);
    }

    /** Promise 2: "Twenty bytes, of a the highest one first, then of b, .. e .." */
    private static void feeds() {
        PageMachine x = new PageMachine(1, 1);
        Probe.due("twenty", x.feed(0x28fffe80, 0x7f010203, 0x04050607, 0x08090b0e, 0x0f101129), 20);
        x.load();
        x.run(1);
        int[] bytes = {0xff, 0xfe, 0x80, 0x7f, 1, 2, 3, 4, 5, 6, 7, 8, 9, 11, 14, 15, 16, 17};
        for (int i = 0; i < bytes.length; i++) {
            Probe.due("byte " + i, x.byteOf(0, i), bytes[i]);
        }
        Probe.due("no byte more", x.byteOf(0, 18), -1);
        Probe.due("from nothing on again", x.feed(0, 0, 0, 0, 0), 20);
        Probe.due("and on", x.feed(0, 0, 0, 0, 0), 40);
    }

    /** Promise 3: "BAD when n is not 0 .. 20, or it has not so many" */
    private static void ends() {
        PageMachine x = new PageMachine(1, 1);
        Probe.due("none of none", x.end(20), 0);
        Probe.due("one of none", x.end(19), -1);
        x.feed(0, 0, 0, 0, 0);
        Probe.due("n is 21", x.end(21), -1);
        for (int n : FAR) {
            Probe.due("n is " + n, x.end(n), -1);
        }
        Probe.due("none goes", x.end(20), 20);
        Probe.due("one goes", x.end(19), 19);
        Probe.due("twenty of nineteen", x.end(0), -1);
        Probe.due("nineteen of nineteen", x.end(1), 0);
        x.feed(0, 0, 0, 0, 0);
        Probe.due("all go", x.end(0), 0);
        x.feed(0x20202020, 0x20202020, 0x20202020, 0x20202020, 0x20202020);
        x.feed(0x37202020, 0x20202020, 0x20202020, 0x20202020, 0x20202020);
        Probe.due("two feeds and an end", x.end(1), 21);
        Probe.due("another end", x.end(0), 1);
        x.load();
        Probe.due("bytes that went are not read", x.place(), 1);
        Probe.due("nor done", x.run(1) + x.depth(0), 0);
    }

    /** Promise 4: "The tape is read as a program, and is empty then" */
    private static void loads() {
        Probe p = new Probe();
        Probe.due("a program", p.load("1 2"), 0);
        Probe.due("its tape is empty", p.machine.end(19), -1);
        Probe.due("load again", p.machine.load(), 0);
        Probe.due("is a program without words", p.machine.run(0), 0);
        Probe.due("a fault", p.load("1 2 )"), -1);
        Probe.due("its tape is empty, too", p.machine.end(19), -1);
        Probe.due("load again", p.machine.load(), 0);
        // A tape may be fed while a program runs.
        p.load("1 2 3");
        p.machine.run(1);
        p.feed("7 8");
        Probe.due("the program goes on", p.machine.run(2), 0);
        Probe.due("with its own words", p.machine.numberOf(0), 3);
        Probe.due("then the tape", p.machine.load(), 0);
        p.machine.run(9);
        Probe.due("is the next one", p.machine.numberOf(0), 8);
    }

    private static final String BUSY = "1 dict begin gsave 1 1 moveto 5 1 lineto 5 5 lineto clip (abc) print "
            + "/x 5 def 0.5 setgray 0 0 moveto 7 0 lineto 7 5 lineto 0 5 lineto gsave fill grestore 1 2 3 ";

    /** "load() makes all new but the page's size" */
    private static void loadsMakeAllNew() {
        Probe p = new Probe(7, 5);
        p.run("0.5 setgray 0 0 moveto 7 0 lineto 7 5 lineto 0 5 lineto fill");
        Probe.due("painted", p.machine.count(0, 128), 7);
        p.run(BUSY + "nonesuch");
        Probe.due("failed", p.machine.error(), 5);
        p.load("");
        asNew("behind load", p.machine, 35);
        Probe.due("names are gone", p.left("currentdict length /x where"), "0 false");
        p.run(BUSY);
        Probe.due("graphics are gone", p.left("currentgray countdictstack"), "0u 2");
        p.run(BUSY + "{ 1 0 div } stopped");
        Probe.due("lasterror is gone", p.left("lasterror"), "0");
    }

    /** "(also when there is a fault, but for the fault's place there is nothing then)" */
    private static void faultsMakeAllNew() {
        Probe p = new Probe(7, 5);
        p.run(BUSY + "nonesuch");
        Probe.due("a fault", p.load("1 2 }"), -4);
        asNew("behind a fault", p.machine, 35);
        Probe.due("there is no program", p.machine.run(0), -1);
        Probe.due("nor with fuel", p.machine.run(100), -1);
        Probe.due("its place", p.machine.place(), 4);
        Probe.due("a good one again", p.load("7"), 0);
        Probe.due("it runs", p.machine.run(1), 0);
    }

    /** Promise 5: "the tape's length when there was none; 0 before" */
    private static void placesOfFaults() {
        Probe p = new Probe();
        Probe.due("before", p.machine.place(), 0);
        p.feed("1 2 3");
        Probe.due("a tape alone", p.machine.place(), 0);
        p.machine.load();
        Probe.due("its length", p.machine.place(), 5);
        p.feed("  )");
        Probe.due("of the latest load()", p.machine.place(), 5);
        p.machine.run(9);
        Probe.due("runs change nothing", p.machine.place(), 5);
        p.machine.load();
        Probe.due("a fault's place", p.machine.place(), 2);
        p.machine.load();
        Probe.due("an empty tape's length", p.machine.place(), 0);
    }

    /** "A program without words ends with its first run, also one without fuel." */
    private static void programsWithoutWords() {
        for (String program : new String[] {"", " ", "%", " \n\t% 1 2 add\r% 5"}) {
            Probe p = new Probe();
            Probe.due("load", p.load(program), 0);
            Probe.due("a run without fuel", p.machine.run(0), 0);
            Probe.due("another one", p.machine.run(7), 0);
            Probe.due("no step", p.machine.steps(), 0);
            Probe.due("no error", p.machine.error(), 0);
            Probe.due("no call", p.machine.depth(2), 0);
        }
        Probe p = new Probe();
        p.load("7");
        Probe.due("a program with a word", p.machine.run(0), 1);
        Probe.due("does no step without fuel", p.machine.steps(), 0);
        Probe.due("ends with its last step", p.machine.run(1), 0);
    }

    /** Promise 6: "BAD when there is no program, or fuel is not 0 .. 100000" */
    private static void fuels() {
        Probe p = new Probe();
        p.load("{ } loop");
        for (int fuel : FAR) {
            Probe.due("fuel " + fuel, p.machine.run(fuel), -1);
        }
        Probe.due("fuel 100001", p.machine.run(100001), -1);
        Probe.due("no step", p.machine.steps(), 0);
        Probe.due("fuel 100000", p.machine.run(100000), 1);
        Probe.due("as many steps", p.machine.steps(), 100000);
        Probe.due("fuel 0", p.machine.run(0), 1);
        Probe.due("as many steps", p.machine.steps(), 100000);
        p.run("1");
        Probe.due("ended, fuel -1", p.machine.run(-1), -1);
        Probe.due("ended, fuel 100001", p.machine.run(100001), -1);
        Probe.due("ended, fuel 100000", p.machine.run(100000), 0);
        p.run("nonesuch");
        Probe.due("failed, fuel 100001", p.machine.run(100001), -1);
        Probe.due("failed, fuel 0", p.machine.run(0), 2);
        Probe.due("failed, fuel 100000", p.machine.run(100000), 2);
        PageMachine none = new PageMachine(1, 1);
        Probe.due("no program, wrong fuel", none.run(-1), -1);
    }

    /** "A run does as many steps as its fuel says, and stops where one more is due; the next run goes on there." */
    private static void runsGoOn() {
        String program = "/f { dup 0 gt { 1 sub f } { pop } ifelse } def 3 f 2 { 1 1 2 { pop } for } repeat "
                + "<< /a 1 /b 2 >> { pop pop } forall { 1 0 div } stopped (ab) { = } forall "
                + "<< /FontMatrix matrix /BuildGlyph { pop pop 1 0 setcharwidth } >> setfont 0 0 moveto (abc) show currentpoint";
        Probe whole = new Probe();
        String left = whole.left(program);
        for (int fuel = 1; fuel <= 7; fuel++) {
            Probe p = new Probe();
            p.load(program);
            int state = 1;
            long steps = 0;
            for (int n = 0; n < 1000 && state == 1; n++) {
                Probe.due("steps so far", p.machine.steps(), steps);
                state = p.machine.run(fuel);
                steps += fuel;
            }
            Probe.due("ended by " + fuel, state, 0);
            Probe.due("steps by " + fuel, p.machine.steps(), whole.machine.steps());
            Probe.due("output by " + fuel, p.output(), whole.output());
            StringBuilder text = new StringBuilder();
            for (int k = p.machine.depth(0) - 1; k >= 0; k--) {
                text.append(p.operand(k)).append(' ');
            }
            Probe.due("operands by " + fuel, text.toString().strip(), left);
        }
    }

    /** Promises 7 and 8. */
    private static void stepsAndErrors() {
        Probe p = new Probe();
        p.load("1 2 nonesuch 3");
        Probe.due("no error yet", p.machine.run(2), 1);
        Probe.due("0 when it has not failed", p.machine.error(), 0);
        Probe.due("fails", p.machine.run(1), 2);
        Probe.due("the error", p.machine.error(), 5);
        Probe.due("its step counts", p.machine.steps(), 3);
        Probe.due("again", p.machine.run(100), 2);
        Probe.due("no step more", p.machine.steps(), 3);
        p.run("{ nonesuch } stopped");
        Probe.due("one that is caught is none", p.machine.error(), 0);
        p.run("nonesuch");
        p.load("1");
        Probe.due("load makes it 0", p.machine.error(), 0);
        p.load("{ } loop");
        for (int n = 0; n < 12; n++) {
            p.machine.run(100000);
        }
        Probe.due("more than a million steps", p.machine.steps(), 1200000);
    }

    /** Promise 9: "BAD for another what. (Without a program 2 and all pixels for 1 and 5, else 0.)" */
    private static void depths() {
        Probe p = new Probe(7, 5);
        for (int what : FAR) {
            Probe.due("depth " + what, p.machine.depth(what), -1);
        }
        Probe.due("depth 6", p.machine.depth(6), -1);
        p.run(BUSY);
        Probe.due("depth 6", p.machine.depth(6), -1);
        Probe.due("operands", p.machine.depth(0), 3);
        Probe.due("dictionaries", p.machine.depth(1), 3);
        Probe.due("calls of one that has ended", p.machine.depth(2), 0);
        Probe.due("pile", p.machine.depth(3), 1);
        Probe.due("parts", p.machine.depth(4), 7);
        p.load("1 2");
        Probe.due("the tape is a call", p.machine.depth(2), 1);
        p.load("1 2 )");
        Probe.due("no calls without a program", p.machine.depth(2), 0);
    }

    /** Promises 10 and 11: each kind with its number. */
    private static void operandsOfEachKind() {
        String[] values = {"null", "false", "true", "-7", "-1.5", "mark", "/abc", "/ab cvx", "(abcd)", "3 array", "{ 1 }",
            "<< 1 2 >>", "/setgray load", "save"};
        int[] numbers = {0, 0, 0, -7, -98304, 0, 3, 2, 4, 3, 1, 1, 7, 1};
        for (int kind = 0; kind < values.length; kind++) {
            Probe p = new Probe();
            p.run("9 " + values[kind]);
            Probe.due("kind of " + values[kind], p.machine.kindOf(0), kind);
            Probe.due("number of " + values[kind], p.machine.numberOf(0), numbers[kind]);
            Probe.due("the one below", p.machine.numberOf(1), 9);
        }
        Probe p = new Probe();
        p.run("2147483647 -2147483648 32767.99998 -32767.99998 0 array 0 string << >> /");
        int[] ends = {0, 0, 0, 0, -2147483647, 2147483647, Integer.MIN_VALUE, Integer.MAX_VALUE};
        for (int k = 0; k < ends.length; k++) {
            Probe.due("number " + k, p.machine.numberOf(k), ends[k]);
        }
        p.run("/d << 1 2 3 4 >> def d d 1 undef");
        Probe.due("keys that are there", p.machine.numberOf(0), 1);
        p.run("/add where pop");
        Probe.due("names of SYSTEM", p.machine.numberOf(0), 140);
    }

    /** "BAD when there is none such"; "0 .. when there is none such" */
    private static void operandsThatAreNone() {
        Probe p = new Probe();
        p.run("7 8");
        Probe.due("the lowest one", p.machine.kindOf(1), 3);
        Probe.due("its number", p.machine.numberOf(1), 7);
        Probe.due("below it", p.machine.kindOf(2), -1);
        Probe.due("its number", p.machine.numberOf(2), 0);
        for (int k : FAR) {
            Probe.due("kind " + k, p.machine.kindOf(k), -1);
            Probe.due("number " + k, p.machine.numberOf(k), 0);
            Probe.due("byte " + k, p.machine.byteOf(k, 0), -1);
        }
        p.run(Probe.full(500));
        Probe.due("operand 499", p.machine.kindOf(499), 3);
        Probe.due("operand 500", p.machine.kindOf(500), -1);
        p.run("7 8 pop");
        Probe.due("one that went", p.machine.kindOf(1), -1);
    }

    /** Promise 12: "Byte i of a text or name or operator's name; BAD when there is none such." */
    private static void bytesOfOperands() {
        Probe p = new Probe();
        p.run("(a\\377) /bc /de cvx /add load () / [ 1 ] 65 null");
        Probe.due("a text's last byte", p.machine.byteOf(8, 1), 255);
        Probe.due("behind it", p.machine.byteOf(8, 2), -1);
        Probe.due("a name's last byte", p.machine.byteOf(7, 1), 'c');
        Probe.due("behind it", p.machine.byteOf(7, 2), -1);
        Probe.due("one to be done", p.machine.byteOf(6, 0), 'd');
        Probe.due("behind it", p.machine.byteOf(6, 2), -1);
        Probe.due("an operator's", p.machine.byteOf(5, 2), 'd');
        Probe.due("behind it", p.machine.byteOf(5, 3), -1);
        Probe.due("an empty text", p.machine.byteOf(4, 0), -1);
        Probe.due("an empty name", p.machine.byteOf(3, 0), -1);
        Probe.due("an array", p.machine.byteOf(2, 0), -1);
        Probe.due("a number", p.machine.byteOf(1, 0), -1);
        Probe.due("null", p.machine.byteOf(0, 0), -1);
        for (int i : FAR) {
            Probe.due("byte " + i, p.machine.byteOf(8, i), -1);
            Probe.due("byte " + i + " of a name", p.machine.byteOf(7, i), -1);
        }
        p.run("(abcdef) 2 3 getinterval");
        Probe.due("a part's first byte", p.machine.byteOf(0, 0), 'c');
        Probe.due("and last one", p.machine.byteOf(0, 2), 'e');
        Probe.due("no byte behind it", p.machine.byteOf(0, 3), -1);
    }

    /** Promise 13: "The gray of a pixel; BAD when there is none such." */
    private static void pixels() {
        PageMachine x = new PageMachine(3, 2);
        Probe.due("the last one", x.gray(2, 1), 255);
        Probe.due("right of it", x.gray(3, 1), -1);
        Probe.due("below it", x.gray(2, 2), -1);
        for (int n : FAR) {
            Probe.due("column " + n, x.gray(n, 0), -1);
            Probe.due("row " + n, x.gray(0, n), -1);
        }
    }

    /** Promise 14: "(0 for one that is none); BAD when there is no such row" */
    private static void counts() {
        PageMachine x = new PageMachine(3, 2);
        Probe.due("all", x.count(1, 255), 3);
        Probe.due("none", x.count(1, 0), 0);
        Probe.due("gray 256", x.count(1, 256), 0);
        Probe.due("row 2", x.count(2, 255), -1);
        for (int n : FAR) {
            Probe.due("gray " + n, x.count(1, n), 0);
            Probe.due("row " + n, x.count(n, 255), -1);
            Probe.due("both " + n, x.count(n, n), -1);
        }
    }

    /** Promises 15 and 16. */
    private static void outputs() {
        Probe p = new Probe();
        Probe.due("nothing", p.machine.output(), 0);
        p.run("(a\\377\\000) print");
        Probe.due("three bytes", p.machine.output(), 3);
        Probe.due("byte 1", p.machine.outputAt(1), 255);
        Probe.due("byte 2", p.machine.outputAt(2), 0);
        Probe.due("byte 3", p.machine.outputAt(3), -1);
        for (int i : FAR) {
            Probe.due("byte " + i, p.machine.outputAt(i), -1);
        }
        p.load("(b) print (c) print");
        p.machine.run(2);
        Probe.due("while it runs", p.machine.output(), 1);
        Probe.due("its byte", p.machine.outputAt(0), 'b');
        Probe.due("what was there before is none", p.machine.outputAt(1), -1);
    }
}
