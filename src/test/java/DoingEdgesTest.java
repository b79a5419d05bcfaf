/** Part 4, sentence by sentence: the calls, the loops, exit, stopped, and full operands. */
public final class DoingEdgesTest {
    public static void main(String[] args) {
        names();
        fullOperands();
        callsGoBeforeTheirLastValue();
        execOfEachKind();
        chosenProcedures();
        roomForCalls();
        roomForLoops();
        roomForStopped();
        repeats();
        countedLoops();
        countedLoopsAtTheEnds();
        loopsOverRows();
        loopsOverDictionaries();
        fullOperandsInLoops();
        exits();
        stops();
        truthsThatDoNotFit();
        steps();
        stepsOfRanges();
        Probe.finish();
    }

    /** A program that does something where there are so many calls, two at least. */
    private static String deep(int calls, String something) {
        return "/n " + (calls - 2) + " def /f { n 0 eq { " + something
                + " 1 pop } { /n n 1 sub def f 1 pop } ifelse } def f 1 pop";
    }

    private static int errorOf(String program) {
        Probe p = new Probe();
        p.run(program);
        return p.machine.error();
    }

    private static String chain(int names) {
        StringBuilder text = new StringBuilder();
        for (int i = 1; i < names; i++) {
            text.append("/n").append(i).append(" /n").append(i + 1).append(" cvx def ");
        }
        return text.toString();
    }

    /** "UNDEFINED if none"; "20 names at most, the first one counted: LIMIT when .." */
    private static void names() {
        Probe.leaves("5 nonesuch 6", "5 error 5");
        Probe.leaves(chain(20) + "/n20 7 def n1", "7");
        Probe.leaves(chain(21) + "/n21 7 def n1", "error 12");
        Probe.leaves(chain(21) + "/n21 7 def n2", "7");
        Probe.leaves(chain(20) + "n1", "error 5");
        Probe.leaves(chain(20) + "/n20 { 1 2 } def n1", "1 2");
        Probe.leaves(chain(20) + "/n20 /add load def 1 2 n1", "3");
        Probe.leaves(chain(20) + "/n20 [ 1 ] def n1 /n20 /x def n1 /n20 null def n1", "[1] /x null");
        Probe.leaves("/a /a cvx def a", "error 12");
        Probe.leaves("/a /b cvx def /b /a cvx def b", "error 12");
        Probe p = new Probe();
        p.load("/a /b cvx def /b 7 def a");
        Probe.due("seven steps and one for both names", p.machine.run(8), 0);
        // The topmost dictionary that has it; what undef took away it has not.
        Probe.leaves("/a 1 def << /a 2 >> begin a currentdict /a undef a end a", "2 1 1");
    }

    /** "Where 500 operands are there, STACKOVERFLOW, as if an operator failed: the step counts" */
    private static void fullOperands() {
        String[] values = {"1", "1.5", "/a", "(a)", "{ }", "{ 1 }", "true", "null", "x"};
        for (String value : values) {
            Probe p = new Probe();
            Probe.due("the 500th " + value, p.run("/x 5 def " + Probe.full(499) + value), 0);
            Probe.due("is there", p.machine.depth(0), 500);
            long steps = p.machine.steps();
            Probe.due("the 501st " + value, p.run("/x 5 def " + Probe.full(500) + value), 2);
            Probe.due("overflow of " + value, p.machine.error(), 2);
            Probe.due("500 of " + value, p.machine.depth(0), 500);
            Probe.due("its step counts", p.machine.steps(), steps + 2);
        }
        // A procedure that is called, an operator that works wants no room.
        Probe.leaves("/p { clear } def " + Probe.full(500) + "p", "");
        Probe.leaves(Probe.full(500) + "clear", "");
        Probe.leaves("/x 5 def " + Probe.full(499) + "/x cvx exec clear", "");
    }

    /** "it is gone before its last one is done; one without values is nothing" */
    private static void callsGoBeforeTheirLastValue() {
        Probe p = new Probe();
        p.load("{ 1 2 } exec 3");
        Probe.due("the tape is the first call", p.machine.depth(2), 1);
        p.machine.run(2);
        Probe.due("and a procedure", p.machine.depth(2), 2);
        p.machine.run(1);
        Probe.due("that has a value left", p.machine.depth(2), 2);
        p.machine.run(1);
        Probe.due("and none", p.machine.depth(2), 1);
        p.load("{ 1 2 } exec");
        p.machine.run(2);
        Probe.due("the tape is gone before its last word is done", p.machine.depth(2), 1);
        p.load("{ } exec { } exec 3");
        p.machine.run(2);
        Probe.due("no call of nothing", p.machine.depth(2), 1);
        p.load("{ } exec");
        Probe.due("nothing is the end", p.machine.run(2), 0);
        Probe.due("a tail is no call", p.run("/n 0 def /f { /n n 1 add def n 5000 lt { f } if } def f n"), 0);
        Probe.due("however often", p.machine.numberOf(0), 5000);
    }

    /** "exec (v): an array or text comes back, a procedure is called .. others come back" */
    private static void execOfEachKind() {
        Probe.leaves("null exec true exec 1 exec 1.5 exec mark exec /a exec (a) exec [ 1 ] exec << >> exec save exec",
                "null true 1 98304u mark /a (a) [1] <0> save1");
        Probe.leaves("{ 1 2 } exec { } exec /add load exec /x 5 def /x cvx exec", "3 5");
        Probe.leaves("/x { 1 2 } def /x cvx exec /x load exec /x load cvlit exec", "1 2 1 2 [2]");
        // An operator that is met in a procedure does as its name does.
        Probe.leaves("{ 1 2 } [ /exec load ] cvx exec [ { 3 } /exec load ] cvx exec", "1 2 3");
        Probe.leaves("{ 4 5 } [ /stopped load ] cvx exec [ 1 2 /add load ] cvx exec", "4 5 false 3");
        Probe.leaves("exec", "error 1");
        Probe.leaves("stopped", "error 1");
        // "What exec and stopped take is gone when they have done it"
        Probe.leaves("1 (a) /add load exec", "1 (a) error 3");
        Probe.leaves("7 /add cvx exec", "7 error 1");
        Probe.leaves("7 /nonesuch cvx exec", "7 error 5");
        Probe.leaves("1 (a) /add load stopped", "1 (a) true");
        Probe.leaves("/exec load exec", "error 1");
        Probe.leaves("1 2 /add load /exec load /exec load exec", "3");
        // In the same step.
        Probe p = new Probe();
        p.load("1 2 /add cvx /exec cvx exec");
        Probe.due("six words and no step more", p.machine.run(8), 0);
        Probe.due("steps", p.machine.steps(), 7);
    }

    /** "if (truth proc), ifelse (truth proc1 proc2): calls the procedure that is meant" */
    private static void chosenProcedures() {
        Probe.leaves("true { 1 } if false { 2 } if", "1");
        Probe.leaves("true { 1 } { 2 } ifelse false { 1 } { 2 } ifelse", "1 2");
        Probe.leaves("true { } if true { } { 1 } ifelse false { 1 } { } ifelse", "");
        Probe.leaves("true [ 1 ] if", "true [1] error 3");
        Probe.leaves("1 { } if", "1 {0} error 3");
        Probe.leaves("true { } [ ] ifelse", "true {0} [0] error 3");
        Probe.leaves("true [ ] { } ifelse", "true [0] {0} error 3");
    }

    /** "CALLS that would be more than 250: EXECSTACKOVERFLOW." */
    private static void roomForCalls() {
        Probe.leaves(deep(249, "{ 1 2 } exec"), "1 2");
        // "Where it fails, nothing is changed ..: its operands are there as before"
        Probe.leaves(deep(250, "7 { 1 2 } exec"), "7 {2} error 10");
        Probe.leaves(deep(250, "{ 1 } exec"), "{1} error 10");
        Probe.leaves(deep(249, "{ 1 } exec"), "1");
        Probe.leaves(deep(250, "{ } exec 7 exec 1 2 /add load exec"), "7 3");
        Probe.leaves(deep(249, "true { 1 2 } if"), "1 2");
        Probe.leaves(deep(250, "true { 1 2 } if"), "true {2} error 10");
        Probe.leaves(deep(250, "false { 1 2 } if true { } if"), "");
        Probe.leaves(deep(249, "true { 1 2 } { } ifelse"), "1 2");
        Probe.leaves(deep(250, "false { } { 1 2 } ifelse"), "false {0} {2} error 10");
        Probe.leaves("/p { 1 2 } def " + deep(249, "p"), "1 2");
        Probe.leaves("/p { 1 2 } def " + deep(250, "p"), "error 10");
        Probe.leaves("/p { } def " + deep(250, "p 5"), "5");
        // The last value of a procedure takes its place, also at 250.
        Probe.leaves("/p { 1 2 } def " + deep(250, "5").replace("5 1 pop }", "5 p }"), "5 1 2");
        Probe p = new Probe();
        p.run(deep(250, "{ 1 2 } exec"));
        Probe.due("none are left", p.machine.depth(2), 0);
        // Behind the deepest place each call does two values more.
        p = new Probe();
        p.run(deep(250, "5"));
        int before = (int) p.machine.steps() - 2 * 250 - 50;
        p.load(deep(250, "5"));
        p.machine.run(before);
        int most = 0;
        for (int n = 0; n < 100; n++) {
            p.machine.run(1);
            most = Math.max(most, p.machine.depth(2));
        }
        Probe.due("250 calls at most", most, 250);
        Probe.leaves("/f { f 1 } def f", "error 10");
    }

    /** "A loop is one call on THE CALLS, below that of its procedure" */
    private static void roomForLoops() {
        String[] loops = {"{ 5 exit } loop", "1 { 5 6 } repeat", "1 1 1 { 5 exit } for", "[ 7 ] { 5 exit } forall"};
        String[] made = {"5", "5 6", "1 5", "7 5"};
        String[] begun = {"", "", "1", "7"};
        String[] refused = {"{2}", "1 {2}", "1 1 1 {2}", "[1] {2}"};
        for (int i = 0; i < loops.length; i++) {
            Probe.leaves(deep(248, loops[i]), made[i]);
            // The loop is there still, the operands are as they are.
            Probe.leaves(deep(249, loops[i]), (begun[i] + " error 10").trim());
            Probe.leaves(deep(250, loops[i]), refused[i] + " error 10");
        }
        Probe.leaves(deep(249, "3 { } repeat 1 1 2 { } for"), "1 2");
        Probe.leaves(deep(249, "0 { 1 2 } repeat [ ] { 1 2 } forall"), "");
        Probe.leaves(deep(250, "-1 { 1 2 } repeat"), "-1 {2} error 4");
        Probe.leaves(deep(249, "<< /k 8 >> { 1 2 } forall"), "/k 8 error 10");
    }

    /** "stopped (v): as exec, above a call of its own" */
    private static void roomForStopped() {
        Probe.leaves(deep(248, "{ 1 2 } stopped"), "1 2 false");
        Probe.leaves(deep(249, "{ } stopped 5 stopped"), "false 5 false");
        // A stopped that fails has changed nothing: its operand is there, and no call of its own.
        Probe.leaves(deep(250, "{ } stopped"), "{0} error 10");
        Probe.leaves(deep(250, "5 stopped"), "5 error 10");
        Probe.leaves(deep(249, "{ 1 2 } stopped"), "{2} error 10");
        Probe.leaves("{ " + deep(247, "{ 1 2 } stopped") + " } stopped lasterror", "{2} true 10");
        Probe.leaves("{ " + deep(246, "{ 1 2 } stopped") + " } stopped lasterror", "1 2 false false 0");
        // What it has done is gone, and what that fails with is caught by it, also at 250.
        Probe.leaves(deep(249, "7 /add load stopped /nonesuch cvx stopped lasterror"), "7 true true 5");
        // Below the calls that are counted here lie one more procedure, and stopped.
        Probe.leaves("{ " + deep(248, "{ 1 2 } exec") + " } stopped lasterror", "{2} true 10");
        Probe.due("no room below stopped", errorOf("{ " + deep(248, "{ 1 2 } exec") + " } stopped { 1 0 div } if"), 6);
        Probe.leaves("{ " + deep(247, "{ 1 2 } exec") + " } stopped lasterror", "1 2 false 0");
    }

    /** "repeat (n proc): n times (RANGE below 0)" */
    private static void repeats() {
        Probe.leaves("0 { 1 } repeat 1 { 2 } repeat", "2");
        Probe.leaves("-1 { 1 } repeat", "-1 {1} error 4");
        Probe.leaves("-2147483648 { } repeat", "-2147483648 {0} error 4");
        Probe.leaves("2147483647 { exit } repeat 5", "5");
        Probe.leaves("1.0 { } repeat", "65536u {0} error 3");
        Probe.leaves("-1 [ ] repeat", "-1 [0] error 3");
    }

    /** "for (i s e proc): .. as long as i is not above e (for s of 0 and more; not below e else)" */
    private static void countedLoops() {
        Probe.leaves("1 1 3 { } for 3 1 3 { } for 4 1 3 { } for", "1 2 3 3");
        Probe.leaves("3 -1 1 { } for 1 -1 1 { } for 0 -1 1 { } for", "3 2 1 1");
        Probe.leaves("1 2 4 { } for 4 -2 1 { } for", "1 3 4 2");
        Probe.leaves("1 0 1 { exit } for 2 0 1 { } for", "1");
        Probe.leaves("1 0 1 { count 4 eq { exit } if } for", "1 1 1 1");
        Probe.leaves("1 1 2.0 { } for 1 1.0 1 { } for 1.0 1 1 { } for", "65536u 131072u 65536u 65536u");
        Probe.leaves("0 0.00001525878 0.00001525878 { } for", "0u 1u");
        Probe.leaves("32767 1.0 0 { } for -32767 1 -32767.5 { } for", "");
        Probe.leaves("32768 1 0.0 { } for", "32768 1 0u {0} error 4");
        Probe.leaves("0 32768 0.0 { } for", "0 32768 0u {0} error 4");
        Probe.leaves("0 1.0 -32768 { } for", "0 65536u -32768 {0} error 4");
        Probe.leaves("0 1 true { } for", "0 1 true {0} error 3");
        Probe.leaves("0 1 2 [ ] for", "0 1 2 [0] error 3");
    }

    /** "i is i + s (RANGE may come there, before the next round's step)" */
    private static void countedLoopsAtTheEnds() {
        Probe.leaves("2147483646 1 2147483646 { } for", "2147483646");
        Probe.leaves("2147483646 1 2147483647 { } for", "2147483646 2147483647 error 4");
        Probe.leaves("-2147483647 -1 -2147483647 { } for", "-2147483647");
        Probe.leaves("-2147483647 -1 -2147483648 { } for", "-2147483647 -2147483648 error 4");
        Probe.leaves("0 2147483647 2147483647 { } for", "0 2147483647 error 4");
        Probe.leaves("32767 0.5 32767 { } for", "2147418112u");
        Probe.leaves("32767 0.5 32767.5 { } for", "2147418112u 2147450880u error 4");
        Probe.leaves("-32767 -0.5 -32767.5 { } for", "-2147418112u -2147450880u error 4");
        Probe.leaves("{ 2147483647 1 2147483647 { } for } stopped lasterror", "2147483647 true 4");
        // No RANGE when exit comes before it.
        Probe.leaves("2147483647 1 2147483647 { exit } for", "2147483647");
    }

    /** "each value of the row in turn (as it is when it comes to it), a text's bytes as whole numbers" */
    private static void loopsOverRows() {
        Probe.leaves("[ ] { 1 } forall { } { 1 } forall () { 1 } forall << >> { 1 } forall", "");
        Probe.leaves("[ 1 (a) ] { } forall { x 2 } { } forall (\\000\\377) { } forall", "1 (a) x 2 0 255");
        Probe.leaves("/a [ 1 2 3 ] def a { a 2 9 put } forall", "1 2 9");
        Probe.leaves("/t (abc) def t { t 2 120 put } forall", "97 98 120");
        Probe.leaves("[ 1 2 3 4 ] 1 2 getinterval { } forall (abcd) 1 2 getinterval { } forall", "2 3 98 99");
        Probe.leaves("/a forall", "/a error 1");
        Probe.leaves("/a { } forall", "/a {0} error 3");
        Probe.leaves("[ ] [ ] forall", "[0] [0] error 3");
        Probe.leaves("/add where pop { } forall", "<140> {0} error 4");
    }

    /** "a dictionary's keys and values in the order in which the keys first came" */
    private static void loopsOverDictionaries() {
        Probe.leaves("<< /b 1 /a 2 3 4 >> { } forall", "/b 1 /a 2 3 4");
        Probe.leaves("/d << /a 1 /b 2 >> def d /a undef d /a 3 put d { } forall", "/a 3 /b 2");
        Probe.leaves("/d << /a 1 /b 2 >> def d /a undef d { } forall", "/b 2");
        // Those that are there when it comes to them: also those that came, or went, meanwhile.
        Probe.leaves("/d << /a 1 /b 2 >> def d { d /c 3 put d /b undef } forall", "/a 1 /c 3");
        Probe.leaves("/d << /a 1 /b 2 >> def d { d /a undef } forall", "/a 1 /b 2");
        Probe.leaves("/d << /a 1 >> def d { d /a undef d /a 5 put } forall", "/a 1");
        Probe.leaves("/d << /a 1 /b 2 >> def d { d /b 7 put } forall", "/a 1 /b 7");
        Probe.leaves("/d << /a 1 /b 2 >> def d /a undef d /b undef d { } forall", "");
    }

    /** "(a key and its value both, or, where they do not fit, neither: STACKOVERFLOW)" */
    private static void fullOperandsInLoops() {
        Probe p = new Probe();
        Probe.due("496", p.run("/d << /a 1 /b 2 >> def " + Probe.full(496) + "d { } forall"), 0);
        Probe.due("and four", p.machine.depth(0), 500);
        Probe.due("497", p.run("/d << /a 1 /b 2 >> def " + Probe.full(497) + "d { } forall"), 2);
        Probe.due("and four do not fit", p.machine.error(), 2);
        Probe.due("neither came", p.machine.depth(0), 499);
        Probe.due("of the second ones", p.machine.numberOf(0), 1);
        Probe.due("a row", p.run("/d { 7 } def " + Probe.full(498) + "/d load { } forall"), 0);
        Probe.due("its value", p.machine.depth(0), 499);
        Probe.due("two values", p.run("/d { 7 8 } def " + Probe.full(498) + "/d load { 9 } forall"), 2);
        Probe.due("no room for the second one", p.machine.error(), 2);
        Probe.due("500", p.machine.depth(0), 500);
        Probe.due("numbers", p.run(Probe.full(496) + "1 1 5 { } for"), 2);
        Probe.due("four of five", p.machine.depth(0), 500);
        Probe.due("on top", p.machine.numberOf(0), 4);
    }

    /** "exit: .. (INVALIDEXIT if there is none above the innermost stopped; nothing is done then)" */
    private static void exits() {
        Probe.leaves("1 exit", "1 error 11");
        Probe.leaves("{ exit } exec", "error 11");
        Probe.leaves("{ { exit } stopped exit } loop lasterror", "true 11");
        Probe.leaves("{ { exit } loop 5 } stopped", "5 false");
        Probe.leaves("2 { 1 { exit } repeat 5 } repeat", "5 5");
        Probe.leaves("{ { { exit 1 } exec 2 } exec 3 } loop 4", "4");
        Probe.leaves("1 1 9 { 3 eq { exit } if } for 7", "7");
        Probe.leaves("(abc) { exit } forall << 1 2 >> { exit } forall 5 { exit } repeat", "97 1 2");
        Probe.leaves("{ exit } loop exit", "error 11");
        // What was under way in a loop that was left is not so in the next one.
        Probe.leaves("{ exit } loop 1 1 3 { } for 5 { exit } repeat 2 { 7 } repeat", "1 2 3 7 7");
        Probe.leaves("1 1 9 { exit } for [ 4 5 ] { } forall 1 1 2 { } for", "1 4 5 1 2");
        Probe.leaves("{ { stop } loop } stopped 1 1 2 { } for", "true 1 2");
        Probe.leaves("<< /FontMatrix matrix /BuildGlyph { pop pop 7 } >> setfont 0 0 moveto { exit } loop (ab) show", "7 7");
        // Loops have nothing to do with the pile.
        Probe.depthIs("{ gsave exit } loop 2 { gsave exit } repeat 1 1 2 { pop gsave exit } for [ 1 ] { pop gsave exit } forall", 3, 4);
        Probe.depthIs("{ { gsave stop } loop } stopped { gsave stop } stopped", 3, 2);
        Probe p = new Probe();
        p.load("{ { 1 exit } exec 2 } loop 3");
        p.machine.run(7);
        Probe.due("all calls down to the loop are gone", p.machine.depth(2), 1);
    }

    /** "stop: all calls down to the innermost stopped are gone, with it, and true comes" */
    private static void stops() {
        Probe.leaves("{ stop } stopped { } stopped 5 stopped", "true false 5 false");
        Probe.leaves("{ { stop 1 } stopped stop 2 } stopped", "true true");
        Probe.leaves("{ { { 1 stop } exec 2 } loop 3 } stopped", "1 true");
        Probe.leaves("1 stop 2", "1");
        Probe.leaves("{ 1 quit 2 } stopped 3", "1");
        Probe.leaves("{ stop } stopped lasterror", "true 0");
        Probe.leaves("{ nonesuch } stopped { stop } stopped lasterror", "true true 5");
        Probe.leaves("lasterror { 1 0 div } stopped lasterror", "0 1 0 true 6");
        Probe.leaves("/stop load stopped /x cvx stopped", "true true");
        Probe p = new Probe();
        Probe.due("stop without a stopped is the end", p.run("1 dict begin gsave 5 stop 6"), 0);
        Probe.due("that changes no operands", p.machine.depth(0), 1);
        Probe.due("nor dictionaries", p.machine.depth(1), 3);
        Probe.due("nor the pile", p.machine.depth(3), 1);
        Probe.due("there are no calls any more", p.machine.depth(2), 0);
        Probe.due("and no error", p.machine.error(), 0);
        Probe.due("again", p.machine.run(5), 0);
        Probe.due("a failure", p.run("1 dict begin gsave 5 nonesuch 6"), 2);
        Probe.due("changes no dictionaries either", p.machine.depth(1) + p.machine.depth(3), 4);
        Probe.due("but calls", p.machine.depth(2), 0);
    }

    /** "(Where true or false finds 500 operands, STACKOVERFLOW is the next error, lasterror ..)" */
    private static void truthsThatDoNotFit() {
        Probe p = new Probe();
        Probe.due("false as the 500th", p.run("{ " + Probe.full(499) + "} stopped"), 0);
        Probe.due("false", p.machine.kindOf(0), 1);
        Probe.due("false as the 501st", p.run("{ " + Probe.full(500) + "} stopped 1"), 2);
        Probe.due("overflow", p.machine.error(), 2);
        Probe.due("500", p.machine.depth(0), 500);
        Probe.due("true as the 500th", p.run("{ " + Probe.full(499) + "stop } stopped"), 0);
        Probe.due("true", p.machine.kindOf(0), 2);
        Probe.due("true as the 501st", p.run("{ " + Probe.full(500) + "stop } stopped 1"), 2);
        Probe.due("overflow", p.machine.error(), 2);
        Probe.due("of an error", p.run("{ " + Probe.full(500) + "nonesuch } stopped 1"), 2);
        Probe.due("overflow, not the error", p.machine.error(), 2);
        Probe.due("the next stopped has no room either", p.run("{ { " + Probe.full(500) + "} stopped } stopped"), 2);
        Probe.due("overflow", p.machine.error(), 2);
        // A glyph that is left takes no operands: only an error's own failure is told.
        Probe.due("an error that is caught", p.run("{ " + Probe.full(499) + "nonesuch } stopped clear lasterror"), 0);
        Probe.due("stays the latest", p.machine.numberOf(0), 5);
    }

    private static void takes(String program, int steps) {
        Probe p = new Probe();
        p.run(program);
        Probe.due("steps of " + program, p.machine.steps(), steps);
        Probe few = new Probe();
        few.load(program);
        Probe.due("one step less of " + program, few.machine.run(steps - 1), 1);
        Probe.due("the last step of " + program, few.machine.run(1), p.machine.run(0));
    }

    /** "A step is also due before each round of a loop that is made ..; the end of a loop .. is none." */
    private static void steps() {
        takes("1 2 add", 3);
        takes("0 { } repeat", 3);
        takes("3 { } repeat", 3 + 3);
        takes("3 { 7 } repeat", 3 + 6);
        takes("{ exit } loop", 2 + 2);
        takes("1 1 3 { } for", 5 + 3);
        takes("4 1 3 { } for", 5);
        takes("[ 1 2 ] { pop } forall", 6 + 4);
        takes("<< 1 2 >> { } forall", 6 + 1);
        takes("() { } forall", 3);
        takes("{ } stopped", 2);
        takes("{ stop } stopped", 3);
        takes("{ { { } stopped } stopped } stopped", 6);
        takes("true { } if", 3);
        takes("quit 1", 1);
        takes("1 nonesuch 2", 2);
        takes("{ 1 1 1 { } for } stopped", 2 + 5 + 1);
    }

    /** RANGE of a for comes before the next step, so a run that does the last step tells it. */
    private static void stepsOfRanges() {
        Probe p = new Probe();
        p.load("2147483647 1 2147483647 { pop } for 5");
        Probe.due("six steps", p.machine.run(6), 1);
        Probe.due("pop, and RANGE behind it", p.machine.run(1), 2);
        Probe.due("RANGE", p.machine.error(), 4);
        Probe.due("seven steps", p.machine.steps(), 7);
        p.load("{ } loop");
        Probe.due("a loop of nothing", p.machine.run(100000), 1);
        Probe.due("takes a step a round", p.machine.steps(), 100000);
        Probe.due("and one call", p.machine.depth(2), 1);
    }
}
