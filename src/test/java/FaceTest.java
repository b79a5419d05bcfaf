import java.lang.reflect.Field;
import java.lang.reflect.Method;
import java.lang.reflect.Modifier;

/** Promises 1 to 16: the face, by ordinary inputs, the edges that are named, and wrong inputs. */
public final class FaceTest {
    public static void main(String[] args) {
        face();
        newObject();
        feedAndEnd();
        loadAndPlace();
        runAndSteps();
        depths();
        operands();
        page();
        output();
        exampleOfReadme();
        Probe.due("BAD", PageMachine.BAD, -1);
        Probe.due("NO", PageMachine.NO, -2);
        Probe.due("FULL", PageMachine.FULL, -3);
        Probe.finish();
    }

    /** The public members are those of the document, and all others are private. */
    private static void face() {
        String open = "";
        for (Field field : PageMachine.class.getDeclaredFields()) {
            open += Modifier.isPrivate(field.getModifiers()) ? "" : " " + field.getName();
        }
        Probe.due("constants", open, " BAD NO FULL");
        int methods = 0;
        for (Method method : PageMachine.class.getDeclaredMethods()) {
            boolean isPublic = Modifier.isPublic(method.getModifiers());
            methods += isPublic ? 1 : 0;
            if (!isPublic && !Modifier.isPrivate(method.getModifiers())) {
                Probe.due("private " + method.getName(), 0, 1);
            }
        }
        Probe.due("methods", methods, 15);
        Probe.due("final", PageMachine.class.getModifiers(), Modifier.PUBLIC | Modifier.FINAL);
    }

    private static void newObject() {
        PageMachine small = new PageMachine(0, -5);
        Probe.due("gray of 0 x -5", small.gray(0, 0), 255);
        Probe.due("no second column", small.gray(1, 0), -1);
        Probe.due("no second row", small.gray(0, 1), -1);
        PageMachine great = new PageMachine(1000, 257);
        Probe.due("last pixel", great.gray(255, 255), 255);
        Probe.due("column 256", great.gray(256, 0), -1);
        Probe.due("row 256", great.gray(0, 256), -1);
        Probe.due("pixels", great.depth(5), 65536);
        Probe.due("run without program", great.run(1), -1);
        Probe.due("place before", great.place(), 0);
        Probe.due("dictionaries without program", great.depth(1), 2);
        Probe.due("end of an empty tape", great.end(19), -1);
        Probe.due("all of an empty tape", great.end(20), 0);
    }

    private static void feedAndEnd() {
        PageMachine x = new PageMachine(4, 4);
        Probe.due("feed", x.feed(0x28616263, 0x64656629, 0x20202020, 0x20202020, 0xff202020), 20);
        Probe.due("end 21", x.end(21), -1);
        Probe.due("end -1", x.end(-1), -1);
        Probe.due("end 8", x.end(8), 8);
        Probe.due("end with too few", x.end(11), -1);
        Probe.due("end 20", x.end(20), 8);
        Probe.due("load", x.load(), 0);
        Probe.due("place", x.place(), 8);
        x.run(1);
        Probe.due("byte 0", x.byteOf(0, 0), 'a');
        Probe.due("byte 5", x.byteOf(0, 5), 'f');
        PageMachine full = new PageMachine(1, 1);
        for (int n = 1; n <= 3276; n++) {
            Probe.due("feed " + n, full.feed(0, 0, 0, 0, 0), 20 * n);
        }
        Probe.due("feed beyond", full.feed(0, 0, 0, 0, 0), -3);
    }

    private static void loadAndPlace() {
        Probe p = new Probe();
        Probe.due("load of nothing", p.machine.load(), 0);
        Probe.due("it ends without fuel", p.machine.run(0), 0);
        Probe.due("fault", p.load("1 2 ) 3"), -1);
        Probe.due("its place", p.machine.place(), 4);
        Probe.due("no program", p.machine.run(1), -1);
        Probe.due("the tape is empty", p.machine.end(0), -1);
        Probe.due("good again", p.load("1 2"), 0);
        Probe.due("its length", p.machine.place(), 3);
    }

    private static void runAndSteps() {
        Probe p = new Probe();
        p.load("1 2 add");
        Probe.due("fuel -1", p.machine.run(-1), -1);
        Probe.due("fuel 100001", p.machine.run(100001), -1);
        Probe.due("fuel 0", p.machine.run(0), 1);
        Probe.due("no step", p.machine.steps(), 0);
        Probe.due("two steps", p.machine.run(2), 1);
        Probe.due("steps", p.machine.steps(), 2);
        Probe.due("the last one", p.machine.run(1), 0);
        Probe.due("again", p.machine.run(100000), 0);
        Probe.due("steps", p.machine.steps(), 3);
        Probe.due("no error", p.machine.error(), 0);
        p.load("1 (a) add 5");
        Probe.due("fails", p.machine.run(100), 2);
        Probe.due("error", p.machine.error(), 3);
        Probe.due("failed before", p.machine.run(0), 2);
        Probe.due("wrong fuel is BAD all the same", p.machine.run(-1), -1);
        Probe.due("steps", p.machine.steps(), 3);
        Probe.due("operands are there", p.machine.depth(0), 2);
        p.load("");
        Probe.due("load takes the error away", p.machine.error(), 0);
        Probe.due("and the steps", p.machine.steps(), 0);
        Probe.due("and the operands", p.machine.depth(0), 0);
    }

    private static void depths() {
        Probe p = new Probe(10, 10);
        p.load("1 2 3 4 dict begin gsave gsave 0 0 moveto 5 0 lineto 5 5 lineto closepath clip { 1 } loop");
        p.machine.run(19);
        Probe.due("operands", p.machine.depth(0), 3);
        Probe.due("dictionaries", p.machine.depth(1), 3);
        Probe.due("calls", p.machine.depth(2), 1);
        Probe.due("pile", p.machine.depth(3), 2);
        Probe.due("parts", p.machine.depth(4), 4);
        Probe.due("clip", p.machine.depth(5), 15);
        Probe.due("depth 6", p.machine.depth(6), -1);
        Probe.due("depth -1", p.machine.depth(-1), -1);
        p.machine.run(2);
        Probe.due("the loop, without the tape", p.machine.depth(2), 1);
        p.load("(");
        for (int what = 0; what < 6; what++) {
            Probe.due("without a program " + what, p.machine.depth(what),
                    what == 1 ? 2 : what == 5 ? 100 : 0);
        }
    }

    private static void operands() {
        Probe p = new Probe();
        p.run("null false true -7 1.5 mark /ab /cde cvx (text) [ 1 2 ] { 1 2 3 } "
                + "<< /a 1 /b 2 >> /add load save");
        int[] kinds = {13, 12, 11, 10, 9, 8, 7, 6, 5, 4, 3, 2, 1, 0};
        int[] numbers = {1, 3, 2, 3, 2, 4, 3, 2, 0, 98304, -7, 0, 0, 0};
        for (int k = 0; k < kinds.length; k++) {
            Probe.due("kind " + k, p.machine.kindOf(k), kinds[k]);
            Probe.due("number " + k, p.machine.numberOf(k), numbers[k]);
        }
        Probe.due("kind 14", p.machine.kindOf(14), -1);
        Probe.due("kind -1", p.machine.kindOf(-1), -1);
        Probe.due("number 14", p.machine.numberOf(14), 0);
        Probe.due("number -1", p.machine.numberOf(-1), 0);
        Probe.due("byte of a text", p.machine.byteOf(5, 3), 't');
        Probe.due("byte behind it", p.machine.byteOf(5, 4), -1);
        Probe.due("byte before it", p.machine.byteOf(5, -1), -1);
        Probe.due("byte of a name", p.machine.byteOf(6, 0), 'c');
        Probe.due("byte of one that stands", p.machine.byteOf(7, 1), 'b');
        Probe.due("byte behind a name", p.machine.byteOf(7, 2), -1);
        Probe.due("byte of an operator", p.machine.byteOf(1, 2), 'd');
        Probe.due("byte of an array", p.machine.byteOf(4, 0), -1);
        Probe.due("byte of none", p.machine.byteOf(14, 0), -1);
        p.run("/add where pop");
        Probe.due("names of SYSTEM", p.machine.numberOf(0), 140);
        p.run("(\\377)");
        Probe.due("bytes are 0 .. 255", p.machine.byteOf(0, 0), 255);
    }

    private static void page() {
        Probe p = new Probe(4, 2);
        p.run("0.5 setgray 0 0 moveto 2 0 lineto 2 1 lineto 0 1 lineto fill");
        Probe.due("gray", p.machine.gray(1, 1), 128);
        Probe.due("white", p.machine.gray(1, 0), 255);
        Probe.due("count", p.machine.count(1, 128), 2);
        Probe.due("count white", p.machine.count(1, 255), 2);
        Probe.due("count none", p.machine.count(1, 7), 0);
        Probe.due("gray 256", p.machine.count(1, 256), 0);
        Probe.due("gray -1", p.machine.count(1, -1), 0);
        Probe.due("row 2", p.machine.count(2, 0), -1);
        Probe.due("row -1", p.machine.count(-1, 0), -1);
        Probe.due("column -1", p.machine.gray(-1, 0), -1);
        Probe.due("row -1", p.machine.gray(0, -1), -1);
        p.load("");
        Probe.due("load makes it white", p.machine.gray(1, 1), 255);
    }

    private static void output() {
        Probe p = new Probe();
        Probe.due("before", p.machine.output(), 0);
        Probe.due("none", p.machine.outputAt(0), -1);
        p.run("(a\\377) print 12 =");
        Probe.due("bytes", p.machine.output(), 5);
        Probe.due("0", p.machine.outputAt(0), 'a');
        Probe.due("1", p.machine.outputAt(1), 255);
        Probe.due("4", p.machine.outputAt(4), 10);
        Probe.due("5", p.machine.outputAt(5), -1);
        Probe.due("-1", p.machine.outputAt(-1), -1);
    }

    /** What README.md shows as the use of the class. */
    private static void exampleOfReadme() {
        PageMachine x = new PageMachine(20, 16);
        Probe.due("twenty bytes", x.feed(0x31203220, 0x61646420, 0x3d203220, 0x32206d6f, 0x7665746f), 20);
        Probe.due("and twenty", x.feed(0x20392032, 0x206c696e, 0x65746f20, 0x7374726f, 0x6b652020), 40);
        Probe.due("two less", x.end(18), 38);
        Probe.due("no fault", x.load(), 0);
        Probe.due("the end", x.run(1000), 0);
        Probe.due("1 2 add", x.outputAt(0), '3');
        Probe.due("on the line", x.gray(3, 13), 0);
        Probe.due("above it", x.gray(3, 12), 255);
    }
}
