import java.lang.reflect.Constructor;
import java.lang.reflect.Field;
import java.lang.reflect.Method;
import java.lang.reflect.Modifier;
import java.util.Arrays;
import java.util.TreeSet;

/** The edges of the calls, promise by promise: the face, refused calls that change nothing, the tank, 512 calls. */
public final class CallBoundsTest {
    private static final int NONE = EquationBench.NONE;
    private static final int BLANKS = 0x20202020;

    /** What a call threw: "" for nothing. */
    private static String runThrows(EquationBench x, int fuel) {
        try {
            x.run(fuel);
            return "";
        } catch (RuntimeException e) {
            return e.getClass().getSimpleName();
        }
    }

    private static String endThrows(EquationBench x, int n) {
        try {
            x.end(n);
            return "";
        } catch (RuntimeException e) {
            return e.getClass().getSimpleName();
        }
    }

    private static String numberThrows(EquationBench x, int row, int column) {
        try {
            x.number(row, column);
            return "";
        } catch (RuntimeException e) {
            return e.getClass().getSimpleName();
        }
    }

    private static int ask(Desk desk, String tape) {
        return desk.type(tape).bench.ask();
    }

    /** "The public face": the class is final and has these members and no other public ones. */
    private static void theFace() throws ReflectiveOperationException {
        Class<?> face = EquationBench.class;
        Desk.same("public and final", true, Modifier.isPublic(face.getModifiers()) && Modifier.isFinal(face.getModifiers()));
        Desk.same("NONE", -1, face.getField("NONE").getInt(null));
        TreeSet<String> members = new TreeSet<>();
        for (Method m : face.getDeclaredMethods()) {
            if (!Modifier.isPrivate(m.getModifiers()) && !m.isSynthetic()) {
                members.add(m.getReturnType().getSimpleName() + " " + m.getName() + Arrays.toString(m.getParameterTypes()));
            }
        }
        for (Field f : face.getDeclaredFields()) {
            if (!Modifier.isPrivate(f.getModifiers()) && !f.isSynthetic()) {
                members.add(f.getType().getSimpleName() + " " + f.getName());
            }
        }
        for (Constructor<?> c : face.getDeclaredConstructors()) {
            if (!c.isSynthetic()) {
                members.add("new " + Arrays.toString(c.getParameterTypes()));
            }
        }
        Desk.same("the members", "[double number[int, int], int NONE, int ask[], int clear[], int columns[], int compile[], int end[int], "
            + "int feed[int, int, int, int, int], int left[], int output[int], int place[], int printed[], int rows[], int run[int], int tear[], new []]",
            members.toString());
    }

    /** "An empty tape, no program, no names, no output." */
    private static void aNewObject() {
        EquationBench x = new EquationBench();
        Desk.same("end(0)", "IllegalArgumentException", endThrows(x, 0));
        Desk.same("run(0)", "IllegalStateException", runThrows(x, 0));
        Desk.same("place()", NONE, x.place());
        Desk.same("left()", 0, x.left());
        Desk.same("printed()", 0, x.printed());
        Desk.same("output(0)", NONE, x.output(0));
        Desk.same("tear()", 0, x.tear());
        Desk.same("rows()", NONE, x.rows());
        Desk.same("columns()", NONE, x.columns());
        Desk.same("number(0, 0)", "IndexOutOfBoundsException", numberThrows(x, 0, 0));
        Desk.same("ask()", 0, x.ask());
        Desk.same("clear()", 0, x.clear());
        Desk.same("feed", 20, x.feed(BLANKS, BLANKS, BLANKS, BLANKS, BLANKS));
        Desk.same("another one's tape is its own", 20, new EquationBench().feed(0, 0, 0, 0, 0));
    }

    /** "Twenty more characters on the tape, four by each number, its highest byte first: how many there are." */
    private static void feed() {
        EquationBench x = new EquationBench();
        x.feed(0x61626364, 0x65666768, 0x696a6b6c, 0x6d6e6f70, 0x71727374);
        Desk.same("twenty more", 40, x.feed(0x3d313b20, BLANKS, BLANKS, BLANKS, BLANKS));
        Desk.same("compile", 4, x.compile());
        Desk.same("run", 0, x.run(10));
        x.feed(0x61626364, 0x65666768, 0x696a6b6c, 0x6d6e6f70, 0x71727374);
        Desk.same("the name of these letters", 1, x.ask());
        // Each of the twenty places holds all eight bits of its byte.
        for (int place = 0; place < 20; place++) {
            int[] five = { BLANKS, BLANKS, BLANKS, BLANKS, BLANKS };
            int shift = 24 - 8 * (place % 4);
            five[place / 4] = BLANKS & ~(255 << shift) | 0x80 << shift;
            x.feed(five[0], five[1], five[2], five[3], five[4]);
            Desk.same("character 128 at " + place, NONE, x.compile());
            Desk.same("its place", place, x.place());
        }
        x.feed(Integer.MIN_VALUE, -1, 0, 1, Integer.MAX_VALUE);
        Desk.same("wild numbers", NONE, x.compile());
        Desk.same("their place", 0, x.place());
    }

    /** "NONE, and nothing is done, when there would be more than 65536": more calls than the document promises for. */
    private static void aFullTape() {
        EquationBench x = new EquationBench();
        for (int i = 0; i < 3275; i++) {
            x.feed(BLANKS, BLANKS, BLANKS, BLANKS, BLANKS);
        }
        Desk.same("65520", 65520, x.feed(BLANKS, BLANKS, BLANKS, BLANKS, 0x783d313b));
        Desk.same("65540 would be too many", NONE, x.feed(0, 0, 0, 0, 0));
        Desk.same("once more", NONE, x.feed(0, 0, 0, 0, 0));
        Desk.same("the tape is as it was", 65520, x.end(20));
        Desk.same("one less than full", 65517, x.end(17));
        Desk.same("65537 would be too many", NONE, x.feed(0, 0, 0, 0, 0));
        Desk.same("its last twenty are still there", 65516, x.end(19));
        Desk.same("65536 are not", 65536, x.feed(BLANKS, BLANKS, BLANKS, BLANKS, 0x2020203b));
        Desk.same("no more", NONE, x.feed(0, 0, 0, 0, 0));
        Desk.same("compile", NONE, x.compile());
        Desk.same("and empty behind it", 20, x.feed(0, 0, 0, 0, 0));
    }

    /** "The tape's last twenty characters become the first n of them": "when n is not 0 .. 20, or there are not twenty". */
    private static void end() {
        EquationBench x = new EquationBench();
        for (int n : new int[] { -1, 0, 1, 20, 21 }) {
            Desk.same("end(" + n + ") of nothing", "IllegalArgumentException", endThrows(x, n));
        }
        x.feed(0x61623132, 0x33343536, 0x37383930, 0x61626364, 0x65666768);
        for (int n : new int[] { -1, 21, 22, Integer.MIN_VALUE, Integer.MAX_VALUE }) {
            Desk.same("end(" + n + ")", "IllegalArgumentException", endThrows(x, n));
        }
        Desk.same("end(20)", 20, x.end(20));
        Desk.same("end(19)", 19, x.end(19));
        Desk.same("end(0) of 19", "IllegalArgumentException", endThrows(x, 0));
        Desk.same("feed", 39, x.feed(0x3d373b20, BLANKS, BLANKS, BLANKS, BLANKS));
        Desk.same("end(3)", 22, x.end(3));
        Desk.same("end(18) of 22", 20, x.end(18));
        Desk.same("feed", 40, x.feed(0x3d373b20, BLANKS, BLANKS, BLANKS, BLANKS));
        Desk.same("end(3)", 23, x.end(3));
        Desk.same("19 letters, '=', and \"=7;\"", 4, x.compile());
        Desk.same("they are no assignment", 2, x.run(10));
        x.feed(0x61613d37, 0x3b202020, BLANKS, BLANKS, BLANKS);
        Desk.same("end(5)", 5, x.end(5));
        Desk.same("compile", 4, x.compile());
        x.feed(BLANKS, BLANKS, BLANKS, BLANKS, BLANKS);
        Desk.same("end(1)", 1, x.end(1));
        x.feed(BLANKS, BLANKS, BLANKS, BLANKS, BLANKS);
        Desk.same("end(0) of 21", 1, x.end(0));
        Desk.same("one is not twenty", "IllegalArgumentException", endThrows(x, 0));
    }

    /** "The tape becomes the program, and is empty then: how many tokens"; "NONE .. the program there was stays; the tape is empty, too." */
    private static void compile() {
        Desk desk = new Desk();
        EquationBench x = desk.bench;
        Desk.same("an empty text", 0, x.compile());
        Desk.same("runs", "", runThrows(x, 0));
        Desk.same("a comment", 0, desk.compile("% x"));
        Desk.same("tokens", 9, desk.compile("x(1, 2) = 3;"));
        Desk.same("the tape is empty", "IllegalArgumentException", endThrows(x, 0));
        Desk.same("a fault", NONE, desk.compile("y = 2; z = ;"));
        Desk.same("the tape is empty, too", "IllegalArgumentException", endThrows(x, 0));
        Desk.same("the old program runs", 0, x.run(100));
        Desk.same("x", "1x2: 0.0 3.0", desk.value("x"));
        Desk.same("y", "none", desk.value("y"));
        Desk.same("an empty text becomes the program", 0, x.compile());
        Desk.same("clear", 1, x.clear());
        Desk.same("which does nothing", 0, x.run(100));
        Desk.same("x", "none", desk.value("x"));
        Desk desk2 = new Desk();
        Desk.same("a first text with a fault", NONE, desk2.compile("x"));
        Desk.same("makes no program", "IllegalStateException", runThrows(desk2.bench, 5));
        Desk.same("a function of the old text is gone", 5, desk.compile("function f() end"));
        desk.compile("f();");
        Desk.same("so is its name", 2, desk.bench.run(10));
    }

    /** "The place of the latest fault of a text, or of a run; NONE when the latest compile() or run() ended without one". */
    private static void place() {
        Desk desk = new Desk();
        EquationBench x = desk.bench;
        desk.compile(") x");
        Desk.same("place 0", 0, x.place());
        desk.compile("x = 1 / y;");
        Desk.same("none behind compile", NONE, x.place());
        x.run(100);
        Desk.same("of the run", 8, x.place());
        Desk.same("a throw", "IllegalArgumentException", runThrows(x, -1));
        Desk.same("another one", "IllegalArgumentException", endThrows(x, 0));
        Desk.same("leave it", 8, x.place());
        x.clear();
        x.tear();
        ask(desk, "x");
        x.feed(0, 0, 0, 0, 0);
        x.end(0);
        Desk.same("as do the other calls", 8, x.place());
        desk.compile("x = 1; try y = 1 / 0; catch end");
        x.run(100);
        Desk.same("none of a fault that was caught", NONE, x.place());
        x.run(1);
        Desk.same("of FUEL", 4, x.place());
        desk.compile("  ");
        Desk.same("none again", NONE, x.place());
        desk.compile("  (");
        Desk.same("of the end", 3, x.place());
        x.run(1);
        Desk.same("none behind the run of the old text", NONE, x.place());
    }

    /** "IllegalArgumentException when fuel is not 0 .. 200000; IllegalStateException when there is no program." */
    private static void run() {
        Desk desk = new Desk();
        EquationBench x = desk.bench;
        for (int fuel : new int[] { -1, 200001, Integer.MIN_VALUE, Integer.MAX_VALUE }) {
            Desk.same("run(" + fuel + ") without a program", "IllegalArgumentException", runThrows(x, fuel));
        }
        for (int fuel : new int[] { 0, 1, 200000 }) {
            Desk.same("run(" + fuel + ") without a program", "IllegalStateException", runThrows(x, fuel));
        }
        desk.run("x = 1; y = 1 / 0;", 50);
        for (int fuel : new int[] { -1, 200001, Integer.MIN_VALUE, Integer.MAX_VALUE }) {
            Desk.same("run(" + fuel + ")", "IllegalArgumentException", runThrows(x, fuel));
            Desk.same("left stays", 44, x.left());
            Desk.same("place stays", 13, x.place());
        }
        Desk.same("run(0)", 14, x.run(0));
        Desk.same("left of none", 0, x.left());
        Desk.same("run(200000)", 7, x.run(200000));
        Desk.same("left of all", 199994, x.left());
        Desk.same("run(199999)", 7, x.run(199999));
        Desk.same("left of one less", 199993, x.left());
    }

    /** "How much of its fuel the latest run left; 0 before any." */
    private static void left() {
        Desk desk = new Desk();
        desk.compile("x = 1;");
        Desk.same("before any", 0, desk.bench.left());
        desk.bench.run(7);
        Desk.same("of 7", 5, desk.bench.left());
        desk.compile("(");
        desk.compile("x = 1;");
        desk.bench.clear();
        Desk.same("it stays", 5, desk.bench.left());
        desk.bench.run(2);
        Desk.same("of 2", 0, desk.bench.left());
        desk.bench.run(3);
        Desk.same("of 3", 1, desk.bench.left());
        desk.bench.run(1);
        Desk.same("of too little", 0, desk.bench.left());
    }

    /** "THE TANK has 4000000 of fuel for all runs": "with so much fuel, or what the tank has, if that is less". */
    private static void theTank() {
        Desk desk = new Desk();
        desk.compile("while (1) end");
        for (int i = 0; i < 19; i++) {
            Desk.same("FUEL", 14, desk.bench.run(200000));
        }
        Desk.same("all but ten", 14, desk.bench.run(199990));
        desk.compile("x = 1;");
        Desk.same("two of ten", 0, desk.bench.run(200000));
        Desk.same("left of ten", 8, desk.bench.left());
        Desk.same("two of five", 0, desk.bench.run(5));
        Desk.same("left of five", 3, desk.bench.left());
        Desk.same("two of six", 0, desk.bench.run(200000));
        Desk.same("left of six", 4, desk.bench.left());
        Desk.same("one is asked for", 14, desk.bench.run(1));
        desk.compile("x = -1;");
        Desk.same("three are there", 0, desk.bench.run(4));
        Desk.same("and none is left", 0, desk.bench.left());
        Desk.same("none in the tank", 14, desk.bench.run(200000));
        Desk.same("at the first statement", 0, desk.bench.place());
        desk.compile("");
        Desk.same("nothing takes nothing", 0, desk.bench.run(200000));
        Desk.same("none is left of it", 0, desk.bench.left());
        Desk.same("another one has its own", 0, new Desk().run("x = 1;"));
    }

    /** Promises 8 to 10: "How many characters the output has", "Character i of the output, from 0; NONE when there is none." */
    private static void output() {
        Desk desk = new Desk();
        EquationBench x = desk.bench;
        desk.run("print 12; show \"a\";");
        Desk.same("printed", 5, x.printed());
        int[] due = { 49, 50, 10, 97, 10 };
        for (int i = 0; i < 5; i++) {
            Desk.same("output(" + i + ")", due[i], x.output(i));
        }
        for (int i : new int[] { -1, 5, 6, 255, 256, Integer.MIN_VALUE, Integer.MAX_VALUE }) {
            Desk.same("output(" + i + ")", NONE, x.output(i));
        }
        desk.run("print 3;");
        Desk.same("behind the first", 7, x.printed());
        Desk.same("its character", 51, x.output(5));
        Desk.same("tear", 7, x.tear());
        Desk.same("printed", 0, x.printed());
        Desk.same("output(0)", NONE, x.output(0));
        Desk.same("tear of nothing", 0, x.tear());
        desk.run("print 4;");
        Desk.same("the first one again", 52, x.output(0));
        Desk.same("none of the old ones", NONE, x.output(2));
        desk.compile("(");
        x.clear();
        Desk.same("neither compile nor clear takes it", 2, x.printed());
    }

    /** "0 when it has no value, there is no such NAME, or the tape has anything but one token that is a NAME". */
    private static void askFor() {
        Desk desk = new Desk();
        EquationBench x = desk.bench;
        desk.run("ab = [1, 2; 3, 4]; t = \"xy\"; e = []; function f(p) q = 1; end f(1);");
        for (String tape : new String[] { "ab", " ab ", "\t\r\n ab\t\r\n ", "ab%", "% ab\nab % ab\n%", "ab % cd\n" }) {
            Desk.same("ask " + tape, 1, ask(desk, tape));
            Desk.same("rows", 2, x.rows());
            Desk.same("the tape is empty", "IllegalArgumentException", endThrows(x, 0));
        }
        for (String tape : new String[] { "", " ", "% ab", "f", "p", "q", "AB", "a", "abc", "ab ab", "ab;", "ab,", "ab'", "(ab)", "-ab",
            "1", "\"ab\"", "if",
            "end", "ab if", "ab 1", "ab @", "@ab", "ab\u0000", "\u00e1", "ab\u000b", "ab=1", "ab(1)", "print", "a b", "ab\"" }) {
            ask(desk, "ab");
            Desk.same("ask " + tape, 0, ask(desk, tape));
            Desk.same("rows", NONE, x.rows());
            Desk.same("columns", NONE, x.columns());
            Desk.same("number", "IndexOutOfBoundsException", numberThrows(x, 0, 0));
            Desk.same("the tape is empty, too", "IllegalArgumentException", endThrows(x, 0));
        }
        for (String name : new String[] { "zeros", "ones", "fault", "error", "count", "fi", "catchy", "ends" }) {
            Desk.same("without a value " + name, 0, ask(desk, name));
            desk.run(name + " = 5;");
            Desk.same("with one " + name, 1, ask(desk, name));
        }
        Desk.same("a text", 2, ask(desk, "t"));
        Desk.same("a matrix without numbers", 1, ask(desk, "e"));
    }

    /** "how many rows (1 for a text)", "How many columns, or characters", "A number of it, rows and columns from 0". */
    private static void shapesAndNumbers() {
        Desk desk = new Desk();
        EquationBench x = desk.bench;
        desk.run("m = [1, 2, 3; 4, 5, 6]; t = \"a~ \"; u = \"\"; z = zeros(0, 4096); y = zeros(4096, 0); v = 1:4096; w = v'; n = -2.5;");
        String[] names = { "m", "t", "u", "z", "y", "v", "w", "n" };
        int[][] due = { { 2, 3 }, { 1, 3 }, { 1, 0 }, { 0, 4096 }, { 4096, 0 }, { 1, 4096 }, { 4096, 1 }, { 1, 1 } };
        for (int i = 0; i < names.length; i++) {
            ask(desk, names[i]);
            Desk.same("rows of " + names[i], due[i][0], x.rows());
            Desk.same("columns of " + names[i], due[i][1], x.columns());
            Desk.same("number(rows, 0)", "IndexOutOfBoundsException", numberThrows(x, due[i][0], 0));
            Desk.same("number(0, columns)", "IndexOutOfBoundsException", numberThrows(x, 0, due[i][1]));
            Desk.same("number(-1, 0)", "IndexOutOfBoundsException", numberThrows(x, -1, 0));
            Desk.same("number(0, -1)", "IndexOutOfBoundsException", numberThrows(x, 0, -1));
            Desk.same("number of wild ones", "IndexOutOfBoundsException", numberThrows(x, Integer.MIN_VALUE, Integer.MAX_VALUE));
            boolean empty = due[i][0] * due[i][1] == 0;
            Desk.same("number(0, 0)", empty ? "IndexOutOfBoundsException" : "", numberThrows(x, 0, 0));
            Desk.same("the last one", empty ? "IndexOutOfBoundsException" : "", numberThrows(x, due[i][0] - 1, due[i][1] - 1));
        }
        ask(desk, "m");
        Desk.same("number(1, 2)", 6.0, x.number(1, 2));
        Desk.same("number(0, 2)", 3.0, x.number(0, 2));
        Desk.same("number(1, 0)", 4.0, x.number(1, 0));
        ask(desk, "t");
        Desk.same("number(0, 1) of a text", 126.0, x.number(0, 1));
        Desk.same("number(0, 2) of a text", 32.0, x.number(0, 2));
        ask(desk, "w");
        Desk.same("number(4095, 0)", 4096.0, x.number(4095, 0));
    }

    /** "Of the value that was asked for latest, as it was then, whatever came since". */
    private static void asItWasThen() {
        Desk desk = new Desk();
        EquationBench x = desk.bench;
        desk.run("m = [1, 2, 3]; t = \"ab\"; z = [-0, 0 * -1];");
        ask(desk, "m");
        desk.run("m(2) = 9; m = 5; t = m;");
        Desk.same("a change", 2.0, x.number(0, 1));
        desk.compile("(");
        x.tear();
        Desk.same("clear", 3, x.clear());
        Desk.same("number behind clear", 3.0, x.number(0, 2));
        numberThrows(x, 5, 5);
        runThrows(x, -1);
        Desk.same("columns behind throws", 3, x.columns());
        desk.run("z = [-0, 0 * -1];");
        ask(desk, "z");
        for (int i = 0; i < 2; i++) {
            Desk.same("0 is told as 0", 0L, Double.doubleToRawLongBits(x.number(0, i)));
        }
        Desk.same("ask of none", 0, ask(desk, "m"));
        Desk.same("rows", NONE, x.rows());
    }

    /** "All names lose their values, and the program's functions stay: how many names had one." */
    private static void clear() {
        Desk desk = new Desk();
        EquationBench x = desk.bench;
        Desk.same("of none", 0, x.clear());
        desk.run("a = 1; a = 2; b = []; c = \"\"; d(5) = 1; e([]) = []; function r = f(p, q) r = p; end a = f(1, 2);");
        Desk.same("of five", 5, x.clear());
        Desk.same("again", 0, x.clear());
        Desk.same("a is gone", 0, ask(desk, "a"));
        desk.compile("g = f(7, 8);");
        Desk.same("functions are of the program", 2, x.run(10));
        desk.compile("function r = f(p) r = p + 1; end a = f(1);");
        Desk.same("of none again", 0, x.clear());
        Desk.same("the functions stay", 0, x.run(10));
        Desk.same("of one", 1, x.clear());
        desk.run("try x = nosuch; catch y = 1; end z = 1 / 0;");
        Desk.same("a name that never got a value has none", 1, x.clear());
    }

    /** "An object is used for at most 512 calls": the last of these answers as the first one does. */
    private static void manyCalls() {
        EquationBench x = new EquationBench();
        // x(end + 1) = x(end) + 1; and x = 1; before.
        x.feed(0x783d313b, BLANKS, BLANKS, BLANKS, BLANKS);
        x.compile();
        x.run(10);
        x.feed(0x7828656e, 0x642b3129, 0x3d782865, 0x6e64292b, 0x313b2020);
        x.compile();
        int calls = 5;
        for (; calls < 509; calls++) {
            Desk.same("run " + calls, 0, x.run(100));
        }
        x.feed(0x78202020, BLANKS, BLANKS, BLANKS, BLANKS);
        x.ask();
        Desk.same("the 512th call", 505.0, x.number(0, 504));
    }

    public static void main(String[] args) throws ReflectiveOperationException {
        theFace();
        aNewObject();
        feed();
        aFullTape();
        end();
        compile();
        place();
        run();
        left();
        theTank();
        output();
        askFor();
        shapesAndNumbers();
        asItWasThen();
        clear();
        manyCalls();
        Desk.finish();
    }
}
