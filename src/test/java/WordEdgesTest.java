/**
 * Part 1, sentence by sentence: the last case that is still taken, and the first one that is not. The
 * limits of the tape and of its words lie beyond the 512 calls for which an object is used; the tests
 * of them, here and in StoreEdgesTest, are the only ones that ask more of one object.
 */
public final class WordEdgesTest {
    public static void main(String[] args) {
        tapeIsFull();
        blanksAndPlainBytes();
        comments();
        rowsOf127();
        wholeNumbers();
        basedNumbers();
        reals();
        roundedReals();
        noNumbers();
        namesThatStand();
        braces();
        texts();
        textsOfDigits();
        behindTheEnd();
        behindFaults();
        faultOne();
        faultTwo();
        faultThree();
        faultFour();
        faultFive();
        faultSix();
        faultEight();
        allTapes();
        whichFaultComesFirst();
        Probe.finish();
    }

    private static void fault(String tape, int fault, int place) {
        Probe p = new Probe();
        String what = tape.length() > 60 ? tape.substring(0, 60) + " .." : tape;
        Probe.due("load of " + what, p.load(tape), -fault);
        Probe.due("place of " + what, p.machine.place(), place);
        Probe.due("no program of " + what, p.machine.run(0) == -1 ? 1 : 0, fault == 0 ? 0 : 1);
    }

    private static void fine(String tape) {
        fault(tape, 0, tape.length());
    }

    /** "THE TAPE has at most 65536 bytes." */
    private static void tapeIsFull() {
        Probe p = new Probe(1, 1);
        p.feed(" ".repeat(65530) + "(abc) ");
        Probe.due("end of nothing at 65536", p.machine.end(20), 65536);
        Probe.due("feed at 65536", p.machine.feed(0, 0, 0, 0, 0), -3);
        Probe.due("nothing came", p.machine.end(20), 65536);
        Probe.due("load of 65536", p.machine.load(), 0);
        Probe.due("place of 65536", p.machine.place(), 65536);
        p.machine.run(1);
        Probe.due("its last word", p.operand(0), "(abc)");
        p.feed(" ".repeat(65516));
        Probe.due("feed to the last byte", p.machine.feed(0, 0, 0, 0, 0), 65536);
        p.machine.load();
        p.feed(" ".repeat(65517));
        Probe.due("feed with 65517", p.machine.feed(0, 0, 0, 0, 0), -3);
    }

    /** "BLANKS are the bytes 0, 9, 10, 12, 13, 32; MARKS are ..; all others are PLAIN." */
    private static void blanksAndPlainBytes() {
        String marks = "()<>[]{}/%";
        for (int c = 0; c < 256; c++) {
            boolean isBlank = c == 0 || c == 9 || c == 10 || c == 12 || c == 13 || c == 32;
            if (marks.indexOf(c) >= 0) {
                continue;
            }
            Probe p = new Probe();
            p.run("/a" + (char) c + "/b");
            Probe.due("words about byte " + c, p.machine.depth(0), 2);
            Probe.due("bytes before byte " + c, p.machine.numberOf(1), isBlank ? 1 : 2);
        }
        Probe.leaves("/a(b)/c<64>/d[/e]/f{/g}/h/i%j", "/a (b) /c (d) /d [1] /f {1} /h /i");
        fine("\0\t\n\f\r ");
        fine("");
    }

    /** "comments: % and all to before the next byte 10 or 13" */
    private static void comments() {
        Probe.leaves("1%2\n3", "1 3");
        Probe.leaves("1%2\r3", "1 3");
        Probe.leaves("1%2\f3 \0 4", "1");
        Probe.leaves("1%(((%)\n/a%b\n3", "1 /a 3");
        Probe.leaves("%", "");
        Probe.leaves("%\n%\r\n%x", "");
        fault("%\n)", 1, 2);
        fine("% }");
    }

    /** "A ROW is plain bytes, as many as follow, at most 127." */
    private static void rowsOf127() {
        Probe.leaves("/" + "x".repeat(127), "/" + "x".repeat(127));
        Probe.leaves("0".repeat(126) + "7", "7");
        Probe.leaves("/" + "x".repeat(127) + "/" + "y".repeat(127),
                "/" + "x".repeat(127) + " /" + "y".repeat(127));
        fine("x".repeat(127));
        fault("x".repeat(128), 6, 0);
        fault("0".repeat(128), 6, 0);
    }

    /** "perhaps + or -, and digits (a WHOLE number)", and fault 5 for one that is not of 32 bits. */
    private static void wholeNumbers() {
        Probe.leaves("2147483647 +2147483647 -2147483648 -0 +0 007",
                "2147483647 2147483647 -2147483648 0 0 7");
        fault("2147483648", 5, 0);
        fault("+2147483648", 5, 0);
        fault("-2147483649", 5, 0);
        fault("1 99999999999999999999999999", 5, 2);
        fault("4294967296", 5, 0);
        fault("18446744073709551617", 5, 0);
    }

    /** "one or two digits (perhaps a 0 first), as a base 2 .. 36, #, and digits of that base" */
    private static void basedNumbers() {
        Probe.leaves("2#0 2#1 02#11 36#z 36#Z 09#8 11#a 16#7fffffff 16#80000000 16#ffffffff",
                "0 1 3 35 35 8 10 2147483647 -2147483648 -1");
        Probe.leaves("2#11111111111111111111111111111111 36#1z141z3 10#4294967295 16#000000000ffffffff",
                "-1 -1 -1 -1");
        fault("2#100000000000000000000000000000000", 5, 0);
        fault("36#1z141z4", 5, 0);
        fault("10#4294967296", 5, 0);
        fault("16#100000000", 5, 0);
        fault(" 16#ffffffffffffffffffffff", 5, 1);
        names("0#0", "1#0", "01#0", "00#0", "37#0", "99#0", "002#1", "016#1", "100#1", "2#2", "2#", "36#-",
                "9#9", "10#a", "35#z", "+2#1", "-2#1", "2#1.0", "2##1", "#1", "16#1#1", "16#g", "2#+1");
    }

    /** "digits with one . among, before or behind them (at least one digit), perhaps e or E .." */
    private static void reals() {
        Probe.leaves("1. .5 1.5 +1.5 -1.5 -.5 +1.", "65536u 32768u 98304u 98304u -98304u -32768u 65536u");
        Probe.leaves("1e0 1E0 1e+0 1e-0 1.e1 .5e1 15e-1 +1e1 -1e1",
                "65536u 65536u 65536u 65536u 655360u 327680u 98304u 655360u -655360u");
        Probe.leaves("1e+1 1E+2 1e-1 0.000000001e9 19e-1", "655360u 6553600u 6554u 65536u 124518u");
        Probe.leaves("0.0 -0.0 0e0 00000.00000 1e-5 0e999999999", "0u 0u 0u 0u 1u 0u");
        names("+.", "-.", ".", ".e1", "+.e1", "1e", "1e+", "1e-", "1.e", "1e1.", "1e.1", "1..", "1.1.1",
                "1e1e1", "e1", "+e1", "1e++1", "1.a", "1.5a", "1ea", "1e5a", "1e1f", "1 e".substring(2), "1f0", "1.5x", "- 1".substring(0, 1));
    }

    private static void names(String... words) {
        for (String word : words) {
            Probe p = new Probe();
            Probe.due(word + " is read", p.load(word), 0);
            Probe.due(word + " is done", p.machine.run(1), 2);
            Probe.due(word + " is no number", p.machine.error(), 5);
        }
    }

    /** "a REAL, what it says times 65536, ROUNDED", and fault 5 when it is 32768 in size then. */
    private static void roundedReals() {
        // Units of 1/65536: 0.0000152587890625. Halves of one go up, also below 0.
        Probe.leaves("0.00000762939453124 0.00000762939453125 0.00002288818359374 0.00002288818359375",
                "0u 1u 1u 2u");
        Probe.leaves("-0.00000762939453125 -0.00000762939453126 -0.00002288818359375 -0.00002288818359376",
                "0u -1u -1u -2u");
        Probe.leaves("762939453125e-17 762939453124e-17 76293.9453125e-10 .000000000762939453125e4",
                "1u 0u 1u 1u");
        Probe.leaves("32767.99999237060546874 -32767.99999237060546875 3276799999237060546874e-17",
                "2147483647u -2147483647u 2147483647u");
        Probe.leaves("32767.9999847412109375 -32767.9999847412109375 32767 32767e0 3.2767E4",
                "2147483647u -2147483647u 32767 2147418112u 2147418112u");
        fault("32767.99999237060546875", 5, 0);
        fault("-32767.99999237060546876", 5, 0);
        fault("32768.", 5, 0);
        fault("-32768.0", 5, 0);
        fault("1e5", 5, 0);
        fault("3.2768e4", 5, 0);
        fault("99999.", 5, 0);
        fault("1e9", 5, 0);
        fault("1e19", 5, 0);
        // Halves of a unit, and a little more, behind the point and before it.
        Probe.leaves("1.0000079345703125 -1.0000079345703125 0.0000079345703125 -0.0000079345703125",
                "65537u -65537u 1u -1u");
        Probe.leaves("1.00000762939453125 -1.00000762939453125 -1.000007629394531250000000001 -1.0000076293945312",
                "65537u -65536u -65537u -65536u");
        fault("1e127", 5, 0);
        fault("1e2147483648", 5, 0);
        Probe.leaves("1e-2147483649 0.00000000000000000000000000000001e32 " + "1" + "0".repeat(100) + "e-100",
                "0u 65536u 65536u");
    }

    /** "Otherwise it is a NAME to be done." */
    private static void noNumbers() {
        names("+", "-", "+-1", "-+1", "--1", "1+", "1-", "1+1", "0x1", "1_0", "1,5", "\u00b2", "1\u0001", "a1");
        Probe.leaves("{ - -1 -. } aload pop 3 1 roll pop pop", "-.");
        Probe.leaves("{ 1- } 0 get", "1-");
    }

    /** "/ and a row, also an empty one: a name that stands for itself. [ and ] and << and >>: names" */
    private static void namesThatStand() {
        Probe.leaves("/ /a /1 /-1.5 /16#f", "/ /a /1 /-1.5 /16#f");
        Probe.leaves("/%x\n//a/ /(b)/[pop", "/ / /a / / (b) /");
        Probe.leaves("{[]<<>>} aload pop", "[ ] << >>");
        Probe.leaves("/ 5 def / load", "5");
        Probe.leaves("<<<61>>>type", "mark (a) error 4");
        Probe.leaves("<<<61>1>>(a)get", "1");
    }

    /** "{ and }: braces; at most 64 may be open at once", and fault 7 at the 65th. */
    private static void braces() {
        fine("{".repeat(64) + "}".repeat(64));
        fine(("{".repeat(64) + "}".repeat(64)).repeat(2));
        fine("{".repeat(64) + "}{".repeat(9) + "}".repeat(64));
        fault("{".repeat(65) + "}".repeat(65), 7, 64);
        fault("1 " + "{ ".repeat(64) + "} { { )", 7, 2 + 128 + 4);
        Probe.leaves("{".repeat(64) + "7" + "}".repeat(64) + " 63 { 0 get } repeat", "{1}");
        Probe.leaves("{}", "{0}");
    }

    /** "( begins a TEXT, to the ) that is its own .." with all that a backslash may stand before. */
    private static void texts() {
        Probe.leaves("() (()) (()()) (a(b)c)", "() (()) (()()) (a(b)c)");
        Probe.leaves("(\\() (\\)) (\\)\\() ((\\)))", "(() ()) ()() (()))");
        Probe.leaves("(\\n\\r\\t\\b\\f)", "(\n\r\t\b\f)");
        Probe.leaves("(\\0) (\\7) (\\00) (\\77) (\\000) (\\377)", "(\0) (\7) (\0) (?) (\0) (\u00ff)");
        Probe.leaves("(\\400) (\\777) (\\0000) (\\1234) (\\8) (\\18) (\\9)",
                "(\0) (\u00ff) (\0" + "0) (S4) (8) (\1" + "8) (9)");
        Probe.leaves("(a\\\nb) (a\\\rb) (a\\\r\nb) (a\\\n\rb) (a\\\r\rb)",
                "(ab) (ab) (ab) (a\nb) (a\nb)");
        Probe.leaves("(a\nb) (a\rb) (a\r\nb) (a\n\rb) (a\r\r\nb)",
                "(a\nb) (a\nb) (a\nb) (a\n\nb) (a\n\nb)");
        Probe.leaves("(\\a) (\\\\) (\\%) (\\N) (\\ ) (\\\0) (\\\u00e9)", "(a) (\\) (%) (N) ( ) (\0) (\u00e9)");
        Probe.leaves("(%) ({) (<>) (/) (\0\t\f)", "(%) ({) (<>) (/) (\0\t\f)");
        Probe.leaves("(\\" + "\r\n)", "()");
        Probe.leaves("(" + "x".repeat(300) + ") length", "300");
    }

    /** "< begins a TEXT of bytes by two digits with 16 each, to the next >; blanks are left out" */
    private static void textsOfDigits() {
        Probe.leaves("<> < > <41> <4 1> <4\0\t\n\f\r 1>", "() () (A) (A) (A)");
        Probe.leaves("<4> <414> <F> <f> <0> <fF09aA>", "(@) (A@) (\u00f0) (\u00f0) (\0) (\u00ff\t\u00aa)");
        Probe.leaves("<41>length <4 >length <>length", "1 1 0");
        Probe.leaves("<40> <00> <04> <f00f> <0a0>", "(@) (\0) (\4) (\u00f0\17) (\n\0)");
    }

    /** What stood on an earlier, longer tape is not read behind the end of this one. */
    private static void behindTheEnd() {
        String[] tapes = {"(ab) <41> 12 /ab", "(a(b)\\)c) )", "<4 1 41>>>", "(\\101\\2) (\\n)", "(a\r\nb\\\r\nc) \r\n",
            "16#ff 1.5e+3 -1e-2 +7", "{ { 1 } 2 } }", "<< /a 1 >> % x\n y", "//a/b[]"};
        for (String tape : tapes) {
            for (int n = 0; n <= tape.length(); n++) {
                // Twenties are fed without anything behind them: blanks come before.
                String before = " ".repeat(20 - n % 20);
                Probe used = new Probe();
                used.load(before + tape + ")>)\n0");
                Probe fresh = new Probe();
                String part = before + tape.substring(0, n);
                Probe.due("again " + part, used.left(part), fresh.left(part));
                Probe.due("place of " + part, used.machine.place(), fresh.machine.place());
                Probe.due("steps of " + part, used.machine.steps(), fresh.machine.steps());
            }
        }
    }

    /** A fault leaves nothing that the next tape could find. */
    private static void behindFaults() {
        Probe p = new Probe();
        Probe.due("an open brace", p.load("{ { 1"), -4);
        Probe.due("is open no more", p.load("1 }"), -4);
        Probe.due("here", p.machine.place(), 2);
        Probe.due("an open brace", p.load("{ { 1"), -4);
        Probe.due("a pair", p.left("{ 5 }"), "{1}");
        Probe.due("an open text", p.load("( (a"), -2);
        Probe.due("a text", p.left("(a)"), "(a)");
        Probe.due("too many braces", p.load("{".repeat(65)), -7);
        Probe.due("64", p.load("{".repeat(64) + "}".repeat(64)), 0);
    }

    /** "1 ) or > with which nothing is open, there" */
    private static void faultOne() {
        fault(")", 1, 0);
        fault("(a))", 1, 3);
        fault(">", 1, 0);
        fault("> >", 1, 0);
        fault("<41>>", 1, 4);
        fault(">>>", 1, 2);
        fault("a)", 1, 1);
        fine(">>>>");
    }

    /** "2 a text that does not end, at the tape's end" */
    private static void faultTwo() {
        fault("(", 2, 1);
        fault("(()", 2, 3);
        fault("(\\)", 2, 3);
        fault("(\\", 2, 2);
        fault("(\\1", 2, 3);
        fault("(\\\r", 2, 3);
        fault("(\r", 2, 2);
        fault("<", 2, 1);
        fault("<4", 2, 2);
        fault("{ ( }", 2, 5);
        fault("1 (a)  <4   ", 2, 12);
    }

    /** "3 in a text of digits a byte that is neither digit nor blank, there" */
    private static void faultThree() {
        fault("<g>", 3, 1);
        fault("<4G", 3, 2);
        fault("<4:", 3, 2);
        fault("<4/>", 3, 2);
        fault("<4@>", 3, 2);
        fault("<4`>", 3, 2);
        fault("<41(>", 3, 3);
        fault("< %\n>", 3, 2);
        fault("< <", 3, 2);
        fault("<\u0080>", 3, 1);
        fault("<\1>", 3, 1);
    }

    /** "4 a } with which no { is open, there; a { that is open still, at the tape's end" */
    private static void faultFour() {
        fault("}", 4, 0);
        fault("{}}", 4, 2);
        fault("{", 4, 1);
        fault("{{}  ", 4, 5);
        fault("{ % }", 4, 5);
        fine("{}{}");
    }

    /** "5 .. at its beginning" */
    private static void faultFive() {
        fault("1 2 -99999999999 )", 5, 4);
        fault("{99999.0}", 5, 1);
        fine("/99999999999");
        fine("(99999999999)");
    }

    /** "6 a row of 128 plain bytes, at the word's beginning" */
    private static void faultSix() {
        fault(" " + "x".repeat(128), 6, 1);
        fault(" /" + "x".repeat(128), 6, 1);
        fault("/" + "x".repeat(127) + " /" + "x".repeat(500), 6, 129);
        fault("{" + "1".repeat(128), 6, 1);
        fine("(" + "x".repeat(128) + ")");
        fine("%" + "x".repeat(128));
    }

    /** "8 a word that would be one more than 16384 .. at its beginning, whatever else is said of it" */
    private static void faultEight() {
        fine("[".repeat(16384));
        fine("[".repeat(16384) + " % )");
        fault("[".repeat(16385), 8, 16384);
        fault("[".repeat(16384) + "  )", 8, 16386);
        fault("[".repeat(16384) + "}", 8, 16384);
        fault("[".repeat(16384) + "(", 8, 16384);
        fault("[".repeat(16384) + "99999999999", 8, 16384);
        fault("[".repeat(16384) + "/" + "x".repeat(128), 8, 16384);
        fault("[".repeat(16383) + ")", 1, 16383);
        fault("[".repeat(16320) + "{".repeat(65), 8, 16384);
        fault("[".repeat(16319) + "{".repeat(65), 7, 16383);
        // Both braces of a pair are words, a text is one.
        fine("[".repeat(16382) + "{}");
        fault("[".repeat(16383) + "{}", 8, 16384);
        fine("[".repeat(16383) + "(a b)");
        fault("{" + "[".repeat(16383) + " ", 4, 16385);
        fault("{" + "[".repeat(16383) + " }", 8, 16385);
    }

    /** ".. or one more than 24000 of all tapes .., where each tape counts as one word besides" */
    private static void allTapes() {
        Probe p = new Probe(1, 1);
        Probe.due("16000 words", p.load("[".repeat(16000)), 0);
        Probe.due("7998 and two tapes make 24000", p.load("[".repeat(7998)), 0);
        Probe.due("no room for a tape", p.load("1"), -8);
        Probe.due("at place 0", p.machine.place(), 0);
        Probe.due("nor for an empty one", p.machine.load(), -8);
        Probe.due("there is no program", p.machine.run(0), -1);

        p = new Probe(1, 1);
        p.load("[".repeat(16000));
        Probe.due("one more than 24000", p.load("[".repeat(7998) + " 7"), -8);
        Probe.due("at its beginning", p.machine.place(), 7999);

        // "of one with a fault the words before it count"
        p = new Probe(1, 1);
        Probe.due("a fault behind 16000 words", p.load("[".repeat(16000) + ")"), -1);
        Probe.due("7998 words", p.load("[".repeat(7998)), 0);
        p = new Probe(1, 1);
        p.load("[".repeat(16000) + ")");
        Probe.due("7999 words", p.load("[".repeat(7999)), -8);
        Probe.due("the last one", p.machine.place(), 7998);

        // The tape's own word has room, but none of its words.
        p = new Probe(1, 1);
        p.load("[".repeat(16000));
        p.load("[".repeat(7997));
        Probe.due("a tape without words", p.load("  "), 0);
        p = new Probe(1, 1);
        p.load("[".repeat(16000));
        p.load("[".repeat(7997));
        Probe.due("a tape with a word", p.load("  ["), -8);
        Probe.due("there", p.machine.place(), 2);
        Probe.due("a new object has room", new Probe(1, 1).load("["), 0);
    }

    /** A tape is cut from place 0 on: the first fault is told. */
    private static void whichFaultComesFirst() {
        fault(") }", 1, 0);
        fault("} )", 4, 0);
        fault("<4x (", 3, 2);
        fault("{ )", 1, 2);
        fault("{ 99999999999 (", 5, 2);
        Probe p = new Probe();
        Probe.due("a fault", p.load("5 )"), -1);
        Probe.due("leaves no operands", p.machine.depth(0), 0);
        Probe.due("and an empty tape", p.load("6"), 0);
        Probe.due("of one byte", p.machine.place(), 1);
    }
}
