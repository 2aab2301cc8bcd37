/** The edges of the BENCH FUNCTIONS but for those that solve, sentence by sentence. */
public final class FunctionBoundsTest {
    private static final int KIND = 3;
    private static final int SHAPE = 4;
    private static final int RANGE = 6;
    private static final int ZERO = 7;
    private static final int DOMAIN = 8;

    private static void gives(String expressions, String due) {
        Desk.prints("print " + expressions + ";", due + "\n");
    }

    private static void sized(String expression, int rows, int columns) {
        Desk.prints("x = " + expression + "; print rows(x), cols(x);", rows + " " + columns + "\n");
    }

    private static void fails(String call, int fault) {
        Desk.faultAt("x = @" + call + ";", fault);
    }

    /** "Arguments are matrices, if nothing else is told (KIND)". */
    private static void kinds() {
        String[] matrices = { "zeros(@, 1)", "zeros(1, @)", "ones(@, 1)", "ones(1, @)", "eye(@)", "sum(@)", "sum(@, 1)", "sum(1, @)",
            "prod(@)", "min(@)",
            "max(@)", "any(@)", "all(@)", "cumsum(@)", "abs(@)", "sqrt(@)", "floor(@)", "ceil(@)", "round(@)", "sign(@)", "mod(@, 1)",
                "mod(1, @)",
            "dot(@, 1)", "dot(1, @)", "norm(@)", "kron(@, 1)", "kron(1, @)", "trace(@)", "diag(@)", "tril(@)", "triu(@)",
                "reshape(@, 1, 1)",
            "reshape(1, @, 1)", "reshape(1, 1, @)", "repeat(@, 1, 1)", "repeat(1, @, 1)", "repeat(1, 1, @)", "find(@)", "sort(@)",
                "lu(@)", "det(@)",
            "inv(@)", "chol(@)", "qr(@)", "eig(@)", "proved(@, 1)", "proved(1, @)", "text(@)" };
        for (String call : matrices) {
            fails(call.replace("@", "\"a\""), KIND);
            fails(call.replace("@", "\"\""), KIND);
        }
        gives("rows(\"abc\"), cols(\"abc\"), count(\"abc\"), size(\"abc\"), rows(\"\"), cols(\"\"), count(\"\"), size(\"\")",
            "1 3 3 1 1 0 0 1");
        Desk.prints("[r, c] = size(\"abc\"); print r, c; [r, c] = size(zeros(0, 7)); print r, c;", "1 3\n0 7\n");
        Desk.faultAt("@error(1);", KIND);
        Desk.faultAt("@error([]);", KIND);
        Desk.faultAt("@error(\"\");", 16);
    }

    /** "'whole' ones are numbers (SHAPE otherwise) from 0 to 4096 that are whole (DOMAIN otherwise, looked at before what would be too large". */
    private static void wholeArguments() {
        String[] calls = { "zeros(@, 1)", "zeros(1, @)", "ones(@, 0)", "ones(0, @)", "eye(@)", "reshape([], @, 0)", "reshape([], 0, @)",
            "repeat([], @, 1)",
            "repeat([], 1, @)" };
        for (String call : calls) {
            for (String bad : new String[] { "-1", "0.5", "4097", "1e300", "-0.5", "4096.5", "-4096", "4294967296" }) {
                fails(call.replace("@", bad), DOMAIN);
            }
            for (String bad : new String[] { "[]", "[1, 2]", "[1; 2]", "[0.5, 0.5]", "zeros(0, 1)" }) {
                fails(call.replace("@", bad), SHAPE);
            }
            Desk.same(call, 0, new Desk().run("x = " + call.replace("@", "0") + ";"));
            Desk.same(call, 0, new Desk().run("x = " + call.replace("@", "-0") + ";"));
            Desk.same(call, call.startsWith("eye") ? SHAPE : 0, new Desk().run("x = " + call.replace("@", "4096") + ";"));
        }
        fails("zeros(4096, 4097)", DOMAIN);
        fails("zeros(4096, 4096)", SHAPE);
        fails("zeros(4096, 0.5)", DOMAIN);
        fails("reshape(1:4, 4097, 1)", DOMAIN);
        fails("reshape(1:4, 4096, 1)", SHAPE);
        fails("reshape(1:4, 1.5, 9)", DOMAIN);
        fails("repeat(ones(64, 64), 4097, 1)", DOMAIN);
        fails("repeat(ones(64, 64), 4096, 1)", SHAPE);
        fails("zeros(0.5, [1, 2])", SHAPE);
    }

    private static void building() {
        gives("zeros(0, 0), zeros(1, 0), ones(1, 1), ones(2, 2), eye(1), eye(0)", "[] [] 1 [1, 1; 1, 1] 1 []");
        sized("zeros(0, 4096)", 0, 4096);
        sized("ones(4096, 0)", 4096, 0);
        sized("eye(0)", 0, 0);
        sized("eye(64)", 64, 64);
        gives("reshape(1:6, 2, 3), reshape([1, 2; 3, 4], 1, 4), reshape(5, 1, 1)", "[1, 2, 3; 4, 5, 6] [1, 2, 3, 4] 5");
        sized("reshape(zeros(3, 0), 0, 7)", 0, 7);
        fails("reshape(1:6, 2, 2)", SHAPE);
        fails("reshape(1:6, 2, 4)", SHAPE);
        fails("reshape(1:6, 0, 0)", SHAPE);
        fails("reshape([], 1, 1)", SHAPE);
        gives("repeat([1, 2], 2, 2), repeat([1; 2], 1, 2), repeat(7, 1, 3)", "[1, 2, 1, 2; 1, 2, 1, 2] [1, 1; 2, 2] [7, 7, 7]");
        sized("repeat([1, 2], 0, 3)", 0, 6);
        sized("repeat([1, 2], 3, 0)", 3, 0);
        sized("repeat(zeros(0, 3), 5, 2)", 0, 6);
        gives("kron([1, 2; 3, 4], [1, 10]), kron([1, 2], [1; 10]), kron(2, 3)", "[1, 10, 2, 20; 3, 30, 4, 40] [1, 2; 10, 20] 6");
        gives("kron([1, 2; 3, 4], [1, 10; 100, 1000])", "[1, 10, 2, 20; 100, 1000, 200, 2000; 3, 30, 4, 40; 300, 3000, 400, 4000]");
        gives("repeat([1, 2; 3, 4], 2, 2)", "[1, 2, 1, 2; 3, 4, 3, 4; 1, 2, 1, 2; 3, 4, 3, 4]");
        sized("kron(zeros(0, 3), ones(2, 2))", 0, 6);
        sized("kron(ones(2, 2), zeros(3, 0))", 6, 0);
        fails("kron([1, 1e200], [1, 1e200])", RANGE);
    }

    /** "diag(x): of one row or column (one number, too; 0 by 0 of one without numbers) ..; otherwise the diagonal as a column". */
    private static void diagonals() {
        gives("diag([1, 2]), diag([1; 2]), diag(5)", "[1, 0; 0, 2] [1, 0; 0, 2] 5");
        sized("diag(zeros(1, 0))", 0, 0);
        sized("diag(zeros(0, 1))", 0, 0);
        sized("diag(zeros(0, 0))", 0, 1);
        sized("diag(zeros(0, 2))", 0, 1);
        sized("diag(zeros(2, 0))", 0, 1);
        sized("diag(zeros(0, 4096))", 0, 1);
        gives("diag([1, 2; 3, 4]), diag([1, 2, 3; 4, 5, 6]), diag([1, 2; 3, 4; 5, 6])", "[1; 4] [1; 5] [1; 4]");
        sized("diag(1:64)", 64, 64);
        fails("diag(1:65)", SHAPE);
        fails("diag(ones(65, 1))", SHAPE);
        gives("trace([1, 2, 3; 4, 5, 6]), trace([1, 2; 3, 4; 5, 6]), trace(7), trace([]), trace(zeros(0, 3)), trace([1, 2, 3])",
            "6 5 7 0 0 1");
        fails("trace([1e308, 0; 0, 1e308])", RANGE);
        gives("tril([1, 2; 3, 4]), triu([1, 2; 3, 4]), tril([1, 2, 3; 4, 5, 6]), triu([1, 2; 3, 4; 5, 6])",
            "[1, 0; 3, 4] [1, 2; 0, 4] [1, 0, 0; 4, 5, 0] [1, 2; 0, 4; 0, 0]");
        sized("tril(zeros(0, 3))", 0, 3);
        sized("triu(zeros(3, 0))", 3, 0);
    }

    /** "sum(x), prod(x): of all numbers in their order, beginning with the first one (0, 1 for none)". */
    private static void sums() {
        gives("sum([]), sum(zeros(3, 0)), prod([]), prod(zeros(0, 3)), sum(5), prod(5)", "0 0 1 1 5 5");
        gives("sum([1, 2; 3, 4]), prod([1, 2; 3, 4]), sum([1, 2; 3, 4], 1), sum([1, 2; 3, 4], 2)", "10 24 [4, 6] [3; 7]");
        sized("sum(zeros(0, 3), 1)", 1, 3);
        sized("sum(zeros(0, 3), 2)", 0, 1);
        sized("sum(zeros(3, 0), 1)", 1, 0);
        sized("sum(zeros(3, 0), 2)", 3, 1);
        gives("sum(zeros(0, 3), 1), sum(zeros(3, 0), 2), sum(5, 1), sum(5, 2)", "[0, 0, 0] [0; 0; 0] 5 5");
        for (String bad : new String[] { "0", "3", "1.5", "-1", "1e300" }) {
            fails("sum([1, 2], " + bad + ")", DOMAIN);
        }
        for (String bad : new String[] { "[]", "[1, 1]", "[1; 2]" }) {
            fails("sum([1, 2], " + bad + ")", SHAPE);
        }
        fails("sum([1e308, 1e308, -1e308])", RANGE);
        gives("sum([1e308, -1e308, 1e308])", "1e308");
        fails("prod([1e308, 10, 0])", RANGE);
        gives("prod([0, 1e308, 10])", "0");
        fails("sum([1e308, 0; 1e308, 0], 1)", RANGE);
        gives("sum([1e308, 0; 1e308, 0], 2)", "[1e308; 1e308]");
        gives("cumsum([1, 2; 3, 4]), cumsum(5), cumsum([])", "[1, 3; 6, 10] 5 []");
        sized("cumsum(zeros(0, 3))", 0, 3);
        fails("cumsum([1e308, 1e308])", RANGE);
    }

    /** "min(x), max(x): the least (greatest) number, then which it is, the first one (SHAPE for none)." "any(x), all(x)". */
    private static void extremes() {
        Desk.prints("[m, i] = min([3, 1; 1, 4]); [n, j] = max([3, 1; 4, 4]); print m, i, n, j;", "1 2 4 3\n");
        Desk.prints("[m, i] = min(5); [n, j] = max(5); print m, i, n, j;", "5 1 5 1\n");
        Desk.prints("[m, i] = min([2, 2]); [n, j] = max([2; 2]); print m, i, n, j;", "2 1 2 1\n");
        Desk.prints("[m, i] = min(-(1:4096)); [n, j] = max(1:4096); print m, i, n, j;", "-4096 4096 4096 4096\n");
        for (String none : new String[] { "[]", "zeros(0, 3)", "zeros(3, 0)" }) {
            fails("min(" + none + ")", SHAPE);
            fails("max(" + none + ")", SHAPE);
        }
        gives("any([]), any(0), any([0, 0; 0, 5e-324]), any(-1), any(zeros(3, 0))", "0 0 1 1 0");
        gives("all([]), all(0), all([1, 2; 3, 0]), all([1, -2; 5e-324, 4]), all(zeros(3, 0))", "1 0 0 1 1");
        gives("find([0, 3; 4, 0]), find(0), find(5), find([]), find([0, 0, 1])", "[2; 3] [] 1 [] 3");
        sized("find(zeros(2, 2))", 0, 1);
        sized("find(zeros(0, 5))", 0, 1);
        Desk.prints("[s, i] = sort([3, 1; 2, 1]); print s, i; [s, i] = sort([2; 1]); print s, i; [s, i] = sort(7); print s, i;",
            "[1, 1; 2, 3] [2, 4; 3, 1]\n[1; 2] [2; 1]\n7 1\n");
        Desk.prints("[s, i] = sort([5, 5, 5, 1, 1]); print s, i; [s, i] = sort(zeros(0, 3)); print cols(s), cols(i);",
            "[1, 1, 5, 5, 5] [4, 5, 1, 2, 3]\n3 3\n");
        Desk.prints("x = mod((1:4096) * 37, 4097); [s, i] = sort(x); print all(s == (1:4096)), all(x(i) == s);", "1 1\n");
    }

    /** "sqrt (DOMAIN, if one is below 0)", "round (the whole number nearest; of two the one farther from 0)", "sign (-1, 0, 1)". */
    private static void numberByNumber() {
        gives("abs([-1, 0, 2]), abs(-5e-324), sign([-5, 0, 7]), sign(5e-324), sign(-5e-324)", "[1, 0, 2] 5e-324 [-1, 0, 1] 1 -1");
        gives("floor([1.5, -1.5, 2, -2, 0]), floor(0.9999999999999999), floor(-5e-324), floor(4503599627370495.5)",
            "[1, -2, 2, -2, 0] 0 -1 4503599627370495");
        gives("ceil([1.5, -1.5, 2, -2, 0]), ceil(1.0000000000000002), ceil(5e-324), ceil(4503599627370495.5)",
            "[2, -1, 2, -2, 0] 2 1 4503599627370496");
        gives("round([0.5, -0.5, 1.5, -1.5, 2.5, -2.5]), round(0.49999999999999994), round(-0.49999999999999994)",
            "[1, -1, 2, -2, 3, -3] 0 0");
        gives("round(4503599627370495.5), round(-4503599627370495.5), round(4503599627370497), round(9007199254740993), round(1e300)",
            "4503599627370496 -4503599627370496 4503599627370497 9007199254740992 1e300");
        gives("floor(-1e300), ceil(1e300), floor(9007199254740991), ceil(-9007199254740991), round(2251799813685247.5)",
            "-1e300 1e300 9007199254740991 -9007199254740991 2251799813685248");
        gives("sqrt([4, 0; 2, 1]), sqrt(-0), sqrt([])", "[2, 0; 1.4142135623730951, 1] 0 []");
        fails("sqrt(-5e-324)", DOMAIN);
        fails("sqrt([4, 1, -1])", DOMAIN);
        for (String f : new String[] { "abs", "sqrt", "floor", "ceil", "round", "sign" }) {
            sized(f + "(zeros(0, 3))", 0, 3);
            sized(f + "(ones(2, 3))", 2, 3);
        }
    }

    /** "mod(x, y): x - (floor(x / y) y), number by number as + (ZERO for y 0)." */
    private static void remainders() {
        gives("mod(5, 3), mod(-5, 3), mod(5, -3), mod(-5, -3), mod(6, 3), mod(0, 5), mod(5.5, 2)", "2 1 -1 -2 0 0 1.5");
        gives("mod([5, 6], 4), mod(7, [4, 5]), mod([5, 6], [3, 4]), mod([], 3), mod(1e20, 3), mod(-1e-20, 1)",
            "[1, 2] [3, 2] [2, 2] [] 0 1");
        fails("mod(1, 0)", ZERO);
        fails("mod(0, 0)", ZERO);
        fails("mod([1, 2], [1, 0])", ZERO);
        fails("mod(1, -0)", ZERO);
        fails("mod(1e300, 1e-300)", RANGE);
        fails("mod(1.7e308, -1e308)", RANGE);
        gives("mod(1.7e308, 2 ^ 1023) == 1.7e308 - 2 ^ 1023, mod(-1.7e308, -(2 ^ 1023)) == 2 ^ 1023 - 1.7e308", "1 1");
        fails("mod([1, 2], [1, 2, 3])", SHAPE);
        fails("mod([1, 2], [1; 2])", SHAPE);
    }

    /** "dot(x, y): 0 plus x(1) y(1), plus x(2) y(2), .. (SHAPE, if they have not as many). norm(x)". */
    private static void products() {
        gives("dot([1, 2], [3, 4]), dot([1, 2; 3, 4], 1:4), dot([], zeros(3, 0)), dot(2, 3), dot([1; 2], [3, 4])", "11 30 0 6 11");
        fails("dot([1, 2], 3)", SHAPE);
        fails("dot(1:3, 1:4)", SHAPE);
        fails("dot([], 1)", SHAPE);
        fails("dot([1e308, 1e308], [1, 1])", RANGE);
        fails("dot([1e200, 1], [1e200, 1])", RANGE);
        gives("dot([1e308, -1e308, 1e308], [1, 1, 1])", "1e308");
        gives("norm([3, 4]), norm([1, 1; 1, 1]), norm([]), norm(-5), norm(1e-200), norm(1e154)", "5 2 0 5 0 1e154");
        fails("norm(1e155)", RANGE);
    }

    /** "text(x): the SHORT text of a number (SHAPE)." */
    private static void texts() {
        gives("text(1.5), [text(1 / 3), \"!\"], count(text(-1e300)), text(0), text(-0), text(1e16)", "1.5 0.3333333333333333! 6 0 0 1e16");
        Desk.prints("print text(100) == \"100\";", "1\n");
        fails("text([])", SHAPE);
        fails("text([1, 2])", SHAPE);
        fails("text(zeros(1, 0))", SHAPE);
        gives("count(text(-1.2345678901234567e-300)), text(-1.2345678901234567e-300)", "24 -1.2345678901234568e-300");
    }

    public static void main(String[] args) {
        kinds();
        wholeArguments();
        building();
        diagonals();
        sums();
        extremes();
        numberByNumber();
        remainders();
        products();
        texts();
        Desk.finish();
    }
}
