/** Parts 4 and 5: doing, loops, errors that are told or caught; promises 6, 7, 8 and 9. */
public final class DoingTest {
    public static void main(String[] args) {
        names();
        calls();
        loops();
        forall();
        stopping();
        errorsLeaveOperands();
        overflows();
        fuel();
        Probe.finish();
    }

    private static void names() {
        Probe.tells("/a 5 def a = /p { 6 } def p = /o /add load def 1 2 o =", "5 6 3");
        Probe.tells("foo", "error 5");
        Probe.tells("/true 7 def true =", "7");
        Probe.tells("/a /b cvx def /b { 9 = } def a", "9");
        StringBuilder chain = new StringBuilder();
        for (int i = 1; i < 20; i++) {
            chain.append("/n").append(i).append(" /n").append(i + 1).append(" cvx def ");
        }
        Probe.tells(chain + "/n20 8 def n1 =", "8");
        Probe.tells(chain + "/n20 /n21 cvx def /n21 8 def n1 =", "error 12");
        Probe p = new Probe();
        p.run(chain + "clear /n20 8 def n1");
        Probe.due("a chain of names is one step", p.machine.steps(), 19 * 4 + 1 + 3 + 1);
    }

    private static void calls() {
        Probe.tells("{ 1 = } exec { 2 = } { } exec exec", "1 2");
        Probe.tells("5 exec = (a) exec = [ 1 ] exec length = /x exec =", "5 a 1 x");
        Probe.tells("1 2 /add load exec = 1 2 /add cvx exec =", "3 3");
        Probe.tells("true { 1 = } if false { 2 = } if true { 3 = } { 4 = } ifelse", "1 3");
        Probe.tells("1 { } if", "error 3");
        Probe.tells("true 5 if", "error 3");
        Probe.tells("true { } 5 ifelse", "error 3");
        Probe.tells("{ 1 } if", "error 1");
        // A procedure that is met is no call of it.
        Probe.tells("{ { 1 } } exec length =", "1");
        Probe p = new Probe();
        p.load("{ 1 2 } exec 3");
        p.machine.run(2);
        Probe.due("tape and procedure", p.machine.depth(2), 2);
        p.machine.run(2);
        Probe.due("the procedure is gone before its last value", p.machine.depth(2), 1);
        Probe.due("a step more", p.machine.run(1), 0);
        Probe.due("no call", p.machine.depth(2), 0);
        p.load("/exec load exec");
        Probe.due("exec of exec without operands", p.machine.run(9), 2);
        Probe.due("takes its own operand away", p.machine.depth(0), 0);
        Probe.due("in one step", p.machine.steps(), 3);
        p.run("1 (a) /add load exec");
        Probe.due("an operator fails with its own operands", p.machine.depth(0), 2);
        p.run("/nonesuch cvx exec");
        Probe.due("a name that is done is gone", p.machine.depth(0), 0);
    }

    private static void loops() {
        Probe.tells("0 { 1 add dup 5 eq { exit } if } loop =", "5");
        Probe.tells("3 { 7 = } repeat 0 { 8 = } repeat", "7 7 7");
        Probe.tells("-1 { } repeat", "error 4");
        Probe.tells("1.0 { } repeat", "error 3");
        Probe.tells("1 2 6 { = } for", "1 3 5");
        Probe.tells("3 -1 1 { = } for 1 1 0 { = } for 0 -1 1 { = } for", "3 2 1");
        Probe.tells("0 0.5 1 { = } for", "0.00000 0.50000 1.00000");
        Probe.tells("40000 1 40001 { = } for", "40000 40001");
        Probe.tells("40000 1 1.0 { = } for", "error 4");
        Probe.tells("2147483646 1 2147483647 { = } for", "2147483646 2147483647 error 4");
        Probe.tells("1 0 3 { = lasterror count 0 eq { exit } if pop exit } for", "1");
        Probe.tells("exit", "error 11");
        Probe.tells("{ exit } stopped lasterror = =", "11 true");
        Probe.tells("{ { exit } stopped = 5 = exit } loop lasterror =", "true 5 11");
        Probe.tells("2 { 3 { exit } repeat 1 = } repeat", "1 1");
        Probe p = new Probe();
        p.load("2 { 7 } repeat");
        Probe.due("two rounds", p.machine.run(100), 0);
        Probe.due("steps of two rounds", p.machine.steps(), 3 + 4);
        p.load("2 { } repeat 5");
        p.machine.run(5);
        Probe.due("the end of a loop is no step", p.machine.depth(2), 1);
        Probe.due("the rest", p.machine.run(1), 0);
    }

    private static void forall() {
        Probe.tells("[ 1 (a) /b ] { = } forall { x y } { = } forall", "1 a b x y");
        Probe.tells("(AB) { = } forall () { = } forall", "65 66");
        Probe.tells("<< /b 1 (a) 2 3.0 4 >> { exch = = } forall", "b 1 a 2 3 4");
        Probe.tells("<< { 1 } 2 >> { pop type = } forall << /x cvx 2 >> { pop xcheck = } forall",
                "arraytype false");
        Probe.tells("/d << /a 1 /b 2 >> def d /a undef d /c 3 put d /a 4 put d { exch = = } forall",
                "a 4 b 2 c 3");
        Probe.tells("/d << /a 1 /b 2 >> def d { pop = d /b undef d /c 3 put } forall", "a c");
        Probe.tells("/d << /a 1 >> def d { pop = d /c 3 put d /e 4 put } forall", "a c e");
        Probe.tells("[ 1 2 3 ] dup { = dup 2 9 put } forall pop", "1 2 9");
        Probe.tells("/add where pop { } forall", "error 4");
        Probe.tells("5 { } forall", "error 3");
        Probe.tells("[ 1 ] 5 forall", "error 3");
    }

    private static void stopping() {
        Probe.tells("{ 1 } stopped = = { stop } stopped =", "false 1 true");
        Probe.tells("{ 1 (a) add } stopped = = = lasterror =", "true a 1 3");
        Probe.tells("{ { stop } stopped = stop 5 = } stopped =", "true true");
        Probe.tells("5 stopped = =", "false 5");
        Probe.tells("/add load stopped = lasterror =", "true 1");
        Probe.tells("/nonesuch cvx stopped = count =", "true 0");
        Probe.tells("{ } stopped =", "false");
        Probe.tells("lasterror = { stop } stopped pop lasterror =", "0 0");
        Probe.tells("1 = stop 2 =", "1");
        Probe.tells("1 = { quit } stopped 2 =", "1");
        Probe.tells("{ 3 { 1 = stop } repeat } stopped 2 =", "1 2");
        Probe p = new Probe();
        Probe.due("stop without a stopped", p.run("1 2 stop 3"), 0);
        Probe.due("is no error", p.machine.error(), 0);
        Probe.due("leaves the operands", p.machine.depth(0), 2);
        p.load("{ } stopped");
        Probe.due("end of stopped is no step", p.machine.run(2), 0);
        Probe.due("false", p.machine.kindOf(0), 1);
    }

    private static void errorsLeaveOperands() {
        String[] failing = {"1 (a) add", "1 0 div", "[ 1 ] 5 get", "(abc) 0 300 put", "-1 3 roll",
            "/a null get", "1 2 3 getinterval", "5 nonesuch", "mark null 1 >>", "(a) 2 moveto",
            "[ 1 2 ] setmatrix", "1 2 lineto", "5 setlinecap", "/F 5 findfont", "(a) show",
            "1 2 3 4 5 6 curveto", "1 2 [ 1 2 3 ] astore", "5 copy", "1 2 [ 3 ] copy"};
        int[] errors = {3, 6, 4, 4, 4, 3, 3, 5, 3, 3, 4, 13, 4, 16, 16, 13, 1, 1, 3};
        int[] left = {2, 2, 2, 3, 2, 2, 3, 1, 3, 2, 1, 2, 1, 2, 1, 6, 3, 1, 3};
        for (int i = 0; i < failing.length; i++) {
            Probe p = new Probe();
            Probe.due(failing[i], p.run(failing[i]), 2);
            Probe.due("error of " + failing[i], p.machine.error(), errors[i]);
            Probe.due("operands of " + failing[i], p.machine.depth(0), left[i]);
        }
    }

    private static void overflows() {
        Probe p = new Probe();
        Probe.due("501 values", p.run("501 { 1 } repeat"), 2);
        Probe.due("overflow", p.machine.error(), 2);
        Probe.due("500 are there", p.machine.depth(0), 500);
        Probe.tells("{ 500 { 1 } repeat { stop } stopped } stopped", "error 2");
        Probe.tells("499 { 1 } repeat { clear { } stopped } stopped count = lasterror =", "2 0");
        Probe.due("both or neither", p.run("/d << 1 2 3 4 >> def 497 { 1 } repeat d { } forall"), 2);
        Probe.due("of a key and its value", p.machine.depth(0), 499);
        Probe.tells("/f { f 1 } def f", "error 10");
        Probe.due("calls", p.run("/f { f 1 } def { f } stopped"), 0);
        Probe.due("250 calls and no more", p.machine.steps(), 5 + 250 + 1 - 1);
        Probe.due("a tail is no call", p.run("/n 0 def /f { /n n 1 add def n 999 lt { f } if } def f n ="), 0);
        Probe.due("exec without room", p.run("/f { { f 1 } exec 1 } def { f } stopped"), 0);
        Probe.due("error", p.run("/f { true { f 1 } if 1 } def f"), 2);
        Probe.due("if fails with its operands or f with none", p.machine.error(), 10);
        Probe.due("loops", p.run("/f { 1 { f } repeat 1 } def f"), 2);
        Probe.due("are calls", p.machine.error(), 10);
    }

    private static void fuel() {
        String program = "/f { dup 0 gt { 1 sub f } { pop } ifelse } def 5 f 3 { 1 pop } repeat "
                + "{ stop } stopped [ 1 2 ] { pop } forall 1 1 3 { = } for";
        Probe whole = new Probe();
        whole.run(program);
        Probe parts = new Probe();
        parts.load(program);
        int runs = 0;
        while (parts.machine.run(1) == 1 && runs < 1000) {
            runs++;
        }
        Probe.due("a step each", parts.machine.steps(), runs + 1);
        Probe.due("as many steps as at once", parts.machine.steps(), whole.machine.steps());
        Probe.due("the same output", parts.output(), whole.output());
        Probe.due("the same operands", parts.machine.depth(0), whole.machine.depth(0));
    }
}
