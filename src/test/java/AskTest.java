/** Promises 11 to 15: ask, rows, columns, number and clear. */
public final class AskTest {
    private static boolean numberThrows(EquationBench x, int row, int column) {
        try {
            x.number(row, column);
            return false;
        } catch (IndexOutOfBoundsException e) {
            return true;
        }
    }

    private static int ask(Desk desk, String tape) {
        return desk.type(tape).bench.ask();
    }

    private static void kinds() {
        Desk desk = new Desk();
        EquationBench x = desk.bench;
        desk.run("m = [1, 2, 3; 4, 5, 6]; t = \"abc\"; e = []; z = zeros(0, 4); u = \"\"; function g() end");
        Desk.same("ask m", 1, ask(desk, "m"));
        Desk.same("rows", 2, x.rows());
        Desk.same("columns", 3, x.columns());
        Desk.same("number(1, 2)", 6.0, x.number(1, 2));
        Desk.same("number(0, 1)", 2.0, x.number(0, 1));
        Desk.same("number(2, 0)", true, numberThrows(x, 2, 0));
        Desk.same("number(0, 3)", true, numberThrows(x, 0, 3));
        Desk.same("number(-1, 0)", true, numberThrows(x, -1, 0));
        Desk.same("number(0, -1)", true, numberThrows(x, 0, -1));
        Desk.same("number(least, most)", true, numberThrows(x, Integer.MIN_VALUE, Integer.MAX_VALUE));
        Desk.same("number(most, most)", true, numberThrows(x, Integer.MAX_VALUE, Integer.MAX_VALUE));
        Desk.same("what throws changes nothing", 6.0, x.number(1, 2));
        Desk.same("ask t", 2, ask(desk, "t"));
        Desk.same("rows of t", 1, x.rows());
        Desk.same("columns of t", 3, x.columns());
        Desk.same("number(0, 2) of t", 99.0, x.number(0, 2));
        Desk.same("number(1, 0) of t", true, numberThrows(x, 1, 0));
        Desk.same("ask e", 1, ask(desk, "e"));
        Desk.same("rows of e", 0, x.rows());
        Desk.same("columns of e", 0, x.columns());
        Desk.same("number of e", true, numberThrows(x, 0, 0));
        Desk.same("ask z", 1, ask(desk, "z"));
        Desk.same("rows of z", 0, x.rows());
        Desk.same("columns of z", 4, x.columns());
        Desk.same("ask u", 2, ask(desk, "u"));
        Desk.same("rows of u", 1, x.rows());
        Desk.same("columns of u", 0, x.columns());
        Desk.same("number of u", true, numberThrows(x, 0, 0));
    }

    private static void nothing() {
        Desk desk = new Desk();
        EquationBench x = desk.bench;
        desk.run("m = 1; function r = g(p) r = p; end y = g(2);");
        String[] tapes = { "", " ", "g", "p", "nosuch", "M", "1", "\"m\"", "m m", "m;", "m'", "@", "if", "end", "m @", "(m)", "% m",
            "m2", "_m", "m\u0000" };
        for (String tape : tapes) {
            ask(desk, "m");
            Desk.same("rows before", 1, x.rows());
            Desk.same("ask " + tape, 0, ask(desk, tape));
            Desk.same("rows", -1, x.rows());
            Desk.same("columns", -1, x.columns());
            Desk.same("number", true, numberThrows(x, 0, 0));
            Desk.same("the tape is empty", 0, desk.bench.compile());
        }
        String[] good = { "m", " m", "m ", "\t\r\n m % comment", "% comment\nm\n%", "m%" };
        for (String tape : good) {
            Desk.same("ask " + tape, 1, ask(desk, tape));
            Desk.same("rows", 1, x.rows());
        }
        StringBuilder name = new StringBuilder();
        for (int i = 0; i < 255; i++) {
            name.append('n');
        }
        desk.run(name + " = 4;");
        Desk.same("255 letters", 1, ask(desk, name.toString()));
        Desk.same("256 letters", 0, ask(desk, name + "n"));
    }

    private static void asItWasThen() {
        Desk desk = new Desk();
        EquationBench x = desk.bench;
        desk.run("m = [1, 2];");
        ask(desk, "m");
        desk.run("m(1) = 7; m = 5;");
        desk.compile("(");
        Desk.same("number behind a change", 1.0, x.number(0, 0));
        Desk.same("clear", 1, x.clear());
        Desk.same("columns behind clear", 2, x.columns());
        Desk.same("number behind clear", 2.0, x.number(0, 1));
        Desk.same("ask again", 0, ask(desk, "m"));
        Desk.same("columns of none", -1, x.columns());
        desk.run("z = -1 * 0; w = [0 - 0, -0];");
        ask(desk, "z");
        Desk.same("0 is told as 0", Double.doubleToRawLongBits(0.0), Double.doubleToRawLongBits(x.number(0, 0)));
    }

    private static void clears() {
        Desk desk = new Desk();
        EquationBench x = desk.bench;
        Desk.same("clear of nothing", 0, x.clear());
        desk.run("function r = f() r = 3; end a = 1; b = \"t\"; c = []; a = 2;");
        Desk.same("clear of three", 3, x.clear());
        Desk.same("clear again", 0, x.clear());
        Desk.same("a", "none", desk.value("a"));
        Desk.same("run", 0, x.run(100));
        Desk.same("a is back", "1x1: 2.0", desk.value("a"));
        desk.run("function r = f() r = 3; end x = f();");
        Desk.same("clear of four", 4, x.clear());
        Desk.same("the functions stay", 0, x.run(100));
        Desk.same("x", "1x1: 3.0", desk.value("x"));
        Desk.same("a name without a value", 2, desk.run("y = a;"));
    }

    private static void theWorkspaceStays() {
        Desk desk = new Desk();
        desk.run("a = 1; b = 2;");
        desk.run("c = a + b; a = \"t\";");
        Desk.same("a", "text1x1: 116.0", desk.value("a"));
        Desk.same("c", "1x1: 3.0", desk.value("c"));
        Desk.same("a fault", 7, desk.run("d = 5; c = 1 / 0; e = 6;"));
        Desk.same("before it", "1x1: 5.0", desk.value("d"));
        Desk.same("where it was", "1x1: 3.0", desk.value("c"));
        Desk.same("behind it", "none", desk.value("e"));
    }

    public static void main(String[] args) {
        kinds();
        nothing();
        asItWasThen();
        clears();
        theWorkspaceStays();
        Desk.finish();
    }
}
