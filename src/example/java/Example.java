/** A bench in use: a system is solved, what was written is read, and a value is asked for. */
public final class Example {
    private static final String PROGRAM =
        "A = [4, 1; 1, 3]; y = [1; 2];\n"
        + "[x, p] = proved(A, y);  % x is A \\ y, and p is 1 if that was proved\n"
        + "print \"x is\", x', \"and p is\", p;\n"
        + "show A * x, inv(A);\n";

    /** Puts a text on the tape: twenty characters by each feed, and end cuts off what the last one has too many. */
    private static void type(EquationBench bench, String text) {
        for (int from = 0; from < text.length(); from += 20) {
            int[] four = new int[5];
            int count = Math.min(20, text.length() - from);
            for (int i = 0; i < count; i++) {
                four[i / 4] |= text.charAt(from + i) << 24 - 8 * (i % 4);
            }
            bench.feed(four[0], four[1], four[2], four[3], four[4]);
            bench.end(count);
        }
    }

    /** Takes the output away, as a text. */
    private static String output(EquationBench bench) {
        StringBuilder all = new StringBuilder();
        for (int i = 0; i < bench.printed(); i++) {
            all.append((char) bench.output(i));
        }
        bench.tear();
        return all.toString();
    }

    public static void main(String[] arguments) {
        EquationBench bench = new EquationBench();

        type(bench, PROGRAM);
        System.out.println("tokens: " + bench.compile());
        System.out.println("fault: " + bench.run(1000) + ", fuel left: " + bench.left());
        System.out.print(output(bench));

        type(bench, "x");
        System.out.println("x is there: " + bench.ask() + ", " + bench.rows() + " by " + bench.columns());
        System.out.println("its second number: " + bench.number(1, 0));

        type(bench, "x = A \\ [1; 2; 3];");
        bench.compile();
        System.out.println("fault: " + bench.run(1000) + " at " + bench.place());

        type(bench, "x = (1;");
        System.out.println("tokens: " + bench.compile() + ", fault at " + bench.place());

        System.out.println("names that had a value: " + bench.clear());
    }
}
