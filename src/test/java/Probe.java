/**
 * A machine that is fed with whole programs, and a count of the answers that were not due.
 * Each test makes one, asks, and ends with {@link #finish}.
 */
final class Probe {
    private static int wrong = 0;
    PageMachine machine;

    Probe(int columns, int rows) {
        machine = new PageMachine(columns, rows);
    }

    Probe() {
        this(16, 16);
    }

    static void due(String what, long got, long want) {
        if (got != want) {
            wrong++;
            System.out.println(what + " answered " + got + ", due is " + want);
        }
    }

    static void due(String what, String got, String want) {
        if (!got.equals(want)) {
            wrong++;
            System.out.println(what + " answered [" + got + "], due is [" + want + "]");
        }
    }

    static void finish() {
        System.out.println(wrong == 0 ? "all answers are as due" : wrong + " answers are not as due");
        if (wrong != 0) {
            System.exit(1);
        }
    }

    /** Puts bytes on the tape: first those beyond twenties, so that 65536 find room, then twenties. */
    void feed(String bytes) {
        int odd = bytes.length() % 20;
        if (odd > 0) {
            feedTwenty(bytes, 0, odd);
            machine.end(odd);
        }
        for (int at = odd; at < bytes.length(); at += 20) {
            feedTwenty(bytes, at, at + 20);
        }
    }

    private void feedTwenty(String bytes, int from, int to) {
        int[] words = new int[5];
        for (int i = 0; i < 20; i++) {
            int c = from + i < to ? bytes.charAt(from + i) : ' ';
            words[i / 4] = words[i / 4] << 8 | c;
        }
        machine.feed(words[0], words[1], words[2], words[3], words[4]);
    }

    int load(String program) {
        feed(program);
        return machine.load();
    }

    /** Loads a program, and runs it until it ends, fails, or has done a million steps. */
    int run(String program) {
        int loaded = load(program);
        if (loaded != 0) {
            return loaded;
        }
        int state = 1;
        for (int n = 0; n < 10 && state == 1; n++) {
            state = machine.run(100000);
        }
        return state;
    }

    String output() {
        StringBuilder text = new StringBuilder();
        int length = machine.output();
        for (int i = 0; i < length; i++) {
            text.append((char) machine.outputAt(i));
        }
        return text.toString();
    }

    /** What a program writes, lines joined by blanks, with its error behind it if it fails. */
    String told(String program) {
        int state = run(program);
        String text = output().trim().replace('\n', ' ');
        if (state == 0) {
            return text;
        }
        return (text + (state == 2 ? " error " + machine.error() : " state " + state)).trim();
    }

    /** The row of grays of the page, a character each: # for 0, . for 255, ? for others. */
    String row(int row) {
        StringBuilder text = new StringBuilder();
        int gray = machine.gray(0, row);
        for (int c = 1; gray >= 0; c++) {
            text.append(gray == 0 ? '#' : gray == 255 ? '.' : '?');
            gray = machine.gray(c, row);
        }
        return text.toString();
    }

    static void tells(String program, String want) {
        due(program, new Probe().told(program), want);
    }

    /** What operand k is: 5, 98304u (a real's units), (text), /name, name, [2] {3} <4> by length. */
    String operand(int k) {
        StringBuilder bytes = new StringBuilder();
        int next = machine.byteOf(k, 0);
        for (int i = 1; next >= 0; i++) {
            bytes.append((char) next);
            next = machine.byteOf(k, i);
        }
        int number = machine.numberOf(k);
        String[] told = {"null", "false", "true", "" + number, number + "u", "mark", "/" + bytes,
            "" + bytes, "(" + bytes + ")", "[" + number + "]", "{" + number + "}",
            "<" + number + ">", "--" + bytes + "--", "save" + number};
        int kind = machine.kindOf(k);
        return kind < 0 ? "none" : told[kind];
    }

    /** What a program leaves on the operands, the lowest one first, with its error behind it. */
    String left(String program) {
        int state = run(program);
        StringBuilder text = new StringBuilder();
        for (int k = machine.depth(0) - 1; k >= 0; k--) {
            text.append(operand(k)).append(' ');
        }
        if (state != 0) {
            text.append(state == 2 ? "error " + machine.error() : "state " + state);
        }
        return text.toString().strip();
    }

    static void leaves(String program, String want) {
        due(program, new Probe().left(program), want);
    }

    /** What depth answers behind a program, on a page of so many columns and rows. */
    static void depthIs(String program, int what, int want) {
        Probe p = new Probe();
        p.run(program);
        due("depth " + what + " behind " + program, p.machine.depth(what), want);
    }

    /** A number of values on the operands, each one a whole number. */
    static String full(int n) {
        return n + " { 1 } repeat ";
    }
}
