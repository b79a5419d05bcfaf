/**
 * A machine that is fed with whole programs, and a count of the answers that were not due.
 * Each test makes one, asks, and ends with {@link #finish}.
 */
final class Probe {
    private static int wrong = 0;
    PageMachine machine;

    Probe(int columns, int rows) {
        machine = new PageMachine(columns, rows);
    }

    Probe() {
        this(16, 16);
    }

    static void due(String what, long got, long want) {
        if (got != want) {
            wrong++;
            System.out.println(what + " answered " + got + ", due is " + want);
        }
    }

    static void due(String what, String got, String want) {
        if (!got.equals(want)) {
            wrong++;
            System.out.println(what + " answered [" + got + "], due is [" + want + "]");
        }
    }

    static void finish() {
        System.out.println(wrong == 0 ? "all answers are as due" : wrong + " answers are not as due");
        if (wrong != 0) {
            System.exit(1);
        }
    }

    /** Puts bytes on the tape, twenty at a time, and cuts what is too much. */
    void feed(String bytes) {
        for (int at = 0; at < bytes.length(); at += 20) {
            int[] words = new int[5];
            for (int i = 0; i < 20; i++) {
                int c = at + i < bytes.length() ? bytes.charAt(at + i) : ' ';
                words[i / 4] = words[i / 4] << 8 | c;
            }
            machine.feed(words[0], words[1], words[2], words[3], words[4]);
            if (bytes.length() - at < 20) {
                machine.end(bytes.length() - at);
            }
        }
    }

    int load(String program) {
        feed(program);
        return machine.load();
    }

    /** Loads a program, and runs it until it ends, fails, or has done a million steps. */
    int run(String program) {
        int loaded = load(program);
        if (loaded != 0) {
            return loaded;
        }
        int state = 1;
        for (int n = 0; n < 10 && state == 1; n++) {
            state = machine.run(100000);
        }
        return state;
    }

    String output() {
        StringBuilder text = new StringBuilder();
        for (int i = 0; i < machine.output(); i++) {
            text.append((char) machine.outputAt(i));
        }
        return text.toString();
    }

    /** What a program writes, lines joined by blanks, with its error behind it if it fails. */
    String told(String program) {
        int state = run(program);
        String text = output().trim().replace('\n', ' ');
        if (state == 0) {
            return text;
        }
        return (text + (state == 2 ? " error " + machine.error() : " state " + state)).trim();
    }

    /** The row of grays of the page, a character each: # for 0, . for 255, ? for others. */
    String row(int row) {
        StringBuilder text = new StringBuilder();
        for (int c = 0; machine.gray(c, row) >= 0; c++) {
            int gray = machine.gray(c, row);
            text.append(gray == 0 ? '#' : gray == 255 ? '.' : '?');
        }
        return text.toString();
    }

    static void tells(String program, String want) {
        due(program, new Probe().told(program), want);
    }
}
