/** A bench with short ways to use it, and the count of what went wrong. */
final class Desk {
    private static int wrong = 0;
    private static int looked = 0;
    final EquationBench bench = new EquationBench();

    /** Puts the text on the tape. */
    Desk type(String text) {
        for (int from = 0; from < text.length(); from += 20) {
            int[] four = new int[5];
            int many = Math.min(20, text.length() - from);
            for (int i = 0; i < many; i++) {
                four[i / 4] |= text.charAt(from + i) << 24 - 8 * (i % 4);
            }
            bench.feed(four[0], four[1], four[2], four[3], four[4]);
            if (many < 20) {
                bench.end(many);
            }
        }
        return this;
    }

    int compile(String text) {
        type(text);
        return bench.compile();
    }

    /** Compiles and runs with that much fuel. */
    int run(String text, int fuel) {
        same("compiles " + text, true, compile(text) >= 0);
        return bench.run(fuel);
    }

    int run(String text) {
        return run(text, 200000);
    }

    /** The fault of a text that is none, as its place; or NONE. */
    int textFault(String text) {
        int tokens = compile(text);
        return tokens == EquationBench.NONE ? bench.place() : EquationBench.NONE;
    }

    String output() {
        StringBuilder all = new StringBuilder();
        for (int i = 0; i < bench.printed(); i++) {
            all.append((char) bench.output(i));
        }
        return all.toString();
    }

    /** What the program prints. */
    String printed(String text) {
        bench.tear();
        int fault = run(text);
        return fault == 0 ? output() : "fault " + fault + " at " + bench.place();
    }

    /** The value of a name, as rows of numbers. */
    String value(String name) {
        type(name);
        int kind = bench.ask();
        if (kind == 0) {
            return "none";
        }
        StringBuilder all = new StringBuilder();
        all.append(kind == 2 ? "text" : "").append(bench.rows()).append('x').append(bench.columns()).append(':');
        for (int i = 0; i < bench.rows(); i++) {
            for (int j = 0; j < bench.columns(); j++) {
                all.append(' ').append(bench.number(i, j));
            }
        }
        return all.toString();
    }

    static void same(String what, Object due, Object got) {
        looked++;
        if (!due.equals(got)) {
            wrong++;
            System.out.println(what + ": answered " + got + ", due is " + due);
        }
    }

    /** A program's fault, its place, and the fuel that is left. */
    static void faults(String text, int fuel, int fault, int place, int left) {
        Desk desk = new Desk();
        same(text + " fault", fault, desk.run(text, fuel));
        same(text + " place", place, desk.bench.place());
        same(text + " left", left, desk.bench.left());
    }

    static void prints(String text, String due) {
        same(text, due, new Desk().printed(text));
    }

    static void broken(String text, int place) {
        same("fault of " + text, place, new Desk().textFault(text));
    }

    /** A text whose first '@' stands in front of the place of its fault. */
    static void brokenAt(String marked) {
        broken(unmarked(marked), marked.indexOf('@'));
    }

    static void fits(String text, int tokens) {
        same("tokens of " + text, tokens, new Desk().compile(text));
    }

    /** A program whose first '@' stands in front of the place where it ends with that fault. */
    static void faultAt(String marked, int fault) {
        faultAt(marked, 200000, fault);
    }

    static void faultAt(String marked, int fuel, int fault) {
        Desk desk = new Desk();
        same(marked + " fault", fault, desk.run(unmarked(marked), fuel));
        same(marked + " place", marked.indexOf('@'), desk.bench.place());
    }

    /** A program that needs so much fuel, the last of it for what begins at its first '@'. */
    static void takes(String marked, int fuel) {
        String text = unmarked(marked);
        faults(text, fuel, 0, EquationBench.NONE, 0);
        faults(text, fuel - 1, 14, marked.indexOf('@'), 0);
    }

    private static String unmarked(String marked) {
        int at = marked.indexOf('@');
        return marked.substring(0, at) + marked.substring(at + 1);
    }

    static String times(String text, int n) {
        return text.repeat(n);
    }

    /** To be called last. */
    static void finish() {
        System.out.println(looked + " answers looked at, " + wrong + " wrong");
        if (wrong > 0) {
            System.exit(1);
        }
    }
}
