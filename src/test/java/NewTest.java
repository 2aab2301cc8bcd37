/** Promise 1: a new object. */
public final class NewTest {
    public static void main(String[] args) {
        EquationBench x = new EquationBench();
        Desk.same("NONE", -1, EquationBench.NONE);
        Desk.same("place()", -1, x.place());
        Desk.same("left()", 0, x.left());
        Desk.same("printed()", 0, x.printed());
        Desk.same("output(0)", -1, x.output(0));
        Desk.same("tear()", 0, x.tear());
        Desk.same("rows()", -1, x.rows());
        Desk.same("columns()", -1, x.columns());
        Desk.same("ask()", 0, x.ask());
        Desk.same("clear()", 0, x.clear());
        boolean thrown = false;
        try {
            x.run(0);
        } catch (IllegalStateException e) {
            thrown = true;
        }
        Desk.same("run(0) throws", true, thrown);
        Desk.same("compile()", 0, x.compile());
        Desk.same("run(0)", 0, x.run(0));
        Desk.finish();
    }
}
