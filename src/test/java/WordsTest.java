/** Part 1 (words) and the reading of numbers: promises 4, 5 and what load() makes of a tape. */
public final class WordsTest {
    public static void main(String[] args) {
        numbers();
        noNumbers();
        names();
        texts();
        comments();
        faults();
        rowsOfTheTape();
        Probe.finish();
    }

    private static void is(String word, int kind, int number) {
        Probe p = new Probe();
        Probe.due("load of " + word, p.run(word), 0);
        Probe.due("kind of " + word, p.machine.kindOf(0), kind);
        Probe.due("number of " + word, p.machine.numberOf(0), number);
        Probe.due("words of " + word, p.machine.depth(0), 1);
    }

    private static void numbers() {
        is("0", 3, 0);
        is("+7", 3, 7);
        is("-0012", 3, -12);
        is("2147483647", 3, Integer.MAX_VALUE);
        is("-2147483648", 3, Integer.MIN_VALUE);
        is("16#fF", 3, 255);
        is("2#101", 3, 5);
        is("08#17", 3, 15);
        is("36#Zz", 3, 35 * 36 + 35);
        is("16#FFFFFFFF", 3, -1);
        is("1.5", 4, 98304);
        is("-1.", 4, -65536);
        is(".25", 4, 16384);
        is("1e2", 4, 100 * 65536);
        is("+2.5E-1", 4, 16384);
        is("32767.9999", 4, Integer.MAX_VALUE - 6);
        is("0e99999999999", 4, 0);
        is("1e-99999999999", 4, 0);
        is("0.0000000000000000000000000000000000000001e41", 4, 10 * 65536);
        // Halves of a unit are rounded up, also below 0.
        is("0.00000762939453125", 4, 1);
        is("-0.00000762939453125", 4, 0);
        is("-0.000007629394531250000001", 4, -1);
        is("0.0000076293945312499999999999", 4, 0);
        is("0.00002288818359375", 4, 2);
        is("-0.00002288818359375", 4, -1);
    }

    private static void noNumbers() {
        String[] words = {"+", "-", ".", "+.", "1e", "1e+", "e5", ".e5", "1.2.3", "--1", "1-",
            "1#0", "37#1", "2#12", "16#", "016#1", "+16#1", "16#1.5", "#1", "1.5#1", "1e2e3", "0x10"};
        for (String word : words) {
            Probe p = new Probe();
            p.load("/" + word + " load " + word);
            Probe.due(word + " is a name", p.machine.run(2), 2);
            Probe.due(word + " is not there", p.machine.error(), 5);
            Probe.due(word + " by its bytes", p.machine.numberOf(0), word.length());
        }
    }

    private static void names() {
        is("/abc", 6, 3);
        is("/", 6, 0);
        is("/12", 6, 2);
        is("{ [ ] << >> a/b//c }", 10, 8);
        is("/\u00ff\u0001", 6, 2);
        Probe p = new Probe();
        p.run("/a[/b]/c");
        Probe.due("marks end a row", p.machine.depth(0), 3);
        Probe.tells("{ [ } 0 get load type =", "operatortype");
        Probe.tells("{ << } 0 get length =", "2");
    }

    private static void text(String program, String want) {
        Probe p = new Probe();
        p.run(program);
        StringBuilder got = new StringBuilder();
        for (int i = 0; i < p.machine.numberOf(0); i++) {
            got.append((char) p.machine.byteOf(0, i));
        }
        Probe.due(program, got.toString(), want);
    }

    private static void texts() {
        text("(abc)", "abc");
        text("()", "");
        text("(a(b(c)d)e)", "a(b(c)d)e");
        text("(a\\(b\\)c)", "a(b)c");
        text("(\\n\\r\\t\\b\\f\\\\\\q)", "\n\r\t\b\f\\q");
        text("(\\101\\1012\\7x\\08\\777)", "AA2\007x\0008\u00ff");
        text("(a\\\nb\\\rc\\\r\nd)", "abcd");
        text("(a\rb\r\nc\nd)", "a\nb\nc\nd");
        text("(a%b)", "a%b");
        text("<4142 4\n3>", "ABC");
        text("<414>", "A@");
        text("<aBcD>", "\u00ab\u00cd");
        text("<>", "");
    }

    private static void comments() {
        Probe.tells("1 % 2 = (\n= %", "1");
        Probe.tells("%a%\r2 =", "2");
        Probe.tells("3%\n=", "3");
        Probe.tells("\000\t\f4\r\n = ", "4");
    }

    private static void fault(String tape, int fault, int place) {
        Probe p = new Probe();
        Probe.due("load of " + tape, p.load(tape), -fault);
        Probe.due("place of " + tape, p.machine.place(), place);
        Probe.due("run of " + tape, p.machine.run(0), -1);
    }

    private static void faults() {
        fault("1 )", 1, 2);
        fault("<<>>>", 1, 4);
        fault("a>b", 1, 1);
        fault("(abc", 2, 4);
        fault("(a\\)", 2, 4);
        fault("(a\\", 2, 3);
        fault("{ <12", 2, 5);
        fault("<1g>", 3, 2);
        fault("<12%>", 3, 3);
        fault("<1<2>>", 3, 2);
        fault("1 } )", 4, 2);
        fault("{ { } ", 4, 6);
        fault(" 2147483648", 5, 1);
        fault("-2147483649", 5, 0);
        fault("16#100000000", 5, 0);
        fault("1 32768.0", 5, 2);
        fault("32767.999999", 5, 0);
        fault("-1e5", 5, 0);
        fault("1e99999999999", 5, 0);
        fault("1 " + "x".repeat(128), 6, 2);
        fault("/" + "x".repeat(128), 6, 0);
        fault("9".repeat(128), 6, 0);
        fault("{".repeat(65), 7, 64);
        Probe p = new Probe();
        Probe.due("64 braces", p.load("{".repeat(64) + "}".repeat(64)), 0);
        Probe.due("127 bytes", p.load("/" + "x".repeat(127)), 0);
        p.run("7 =");
        fault("7 = )", 1, 4);
        p.load(")");
        Probe.due("a fault leaves nothing", p.machine.output(), 0);
        // Words of all tapes together, each tape as one more.
        Probe.due("no room for the next tape's own", placeOfTooMuch(false), 0);
        Probe.due("no room for its ninth word", placeOfTooMuch(true), 8);
    }

    /** Tapes of nine words until there is no room, perhaps behind one without words. */
    private static int placeOfTooMuch(boolean isOneEmpty) {
        PageMachine many = new PageMachine(1, 1);
        int loaded = isOneEmpty ? many.load() : 0;
        for (int n = 0; n < 3000 && loaded == 0; n++) {
            many.feed(0x5b5b5b5b, 0x5b5b5b5b, 0x5b202020, 0x20202020, 0x20202020);
            loaded = many.load();
        }
        Probe.due("fault", loaded, -8);
        return many.place();
    }

    private static void rowsOfTheTape() {
        Probe.tells("2 { (a) dup 0 get = dup 0 98 put pop } repeat", "97 98");
        Probe.tells("{ { 1 } } dup 0 get exch 0 get eq =", "true");
    }
}
