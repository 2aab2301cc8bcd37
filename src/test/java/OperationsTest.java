/** Promise 6: what operations and bench functions give, and their faults. */
public final class OperationsTest {
    private static void gives(String expression, String due) {
        Desk desk = new Desk();
        Desk.same(expression, due, desk.printed("print " + expression + ";"));
    }

    private static void shape(String expression, int rows, int columns) {
        Desk desk = new Desk();
        desk.run("x = " + expression + ";");
        desk.type("x").bench.ask();
        Desk.same("rows of " + expression, rows, desk.bench.rows());
        Desk.same("columns of " + expression, columns, desk.bench.columns());
    }

    /** The fault of x = expression, whose place is told from the expression's begin. */
    private static void fails(String expression, int fault, int place) {
        Desk desk = new Desk();
        Desk.same(expression, fault, desk.run("x = " + expression + ";"));
        Desk.same("place in " + expression, place + 4, desk.bench.place());
    }

    private static void grouping() {
        gives("2 - 3 - 4", "-5\n");
        gives("12 / 2 / 3", "2\n");
        gives("2 ^ 3 ^ 2", "64\n");
        gives("-2 ^ 2", "-4\n");
        gives("2 ^ -1", "0.5\n");
        gives("2 ^ -1 ^ 2", "0.25\n");
        gives("-2 * -3", "6\n");
        gives("~0 == 1", "1\n");
        gives("~[0, 1]'", "[1; 0]\n");
        gives("1:2 + 3", "[1, 2, 3, 4, 5]\n");
        gives("1 < 2 < 3", "1\n");
        gives("3 < 2 < 1", "1\n");
        gives("1 == 1:3", "[1, 0, 0]\n");
        gives("0 || 1 && 0", "0\n");
        gives("1 || 0 && 0", "1\n");
        gives("2 && 3, [] || 0, \"a\" || [1, 2]", "1 0 1\n");
        gives("8 \\ 2", "0.25\n");
        gives("0.1 + 0.2 - 0.3", "5.551115123125783e-17\n");
        gives("(2 + 3) * 4, 2 + 3 * 4", "20 14\n");
    }

    private static void numberByNumber() {
        gives("[1, 2] + [3; 4]' * 2", "[7, 10]\n");
        gives("[1, 2; 3, 4] .* [5, 6; 7, 8]", "[5, 12; 21, 32]\n");
        gives("[1, 2] ./ 4, 4 ./ [1, 2], [2, 4] / 2, 2 * [1, 2]", "[0.25, 0.5] [4, 2] [1, 2] [2, 4]\n");
        gives("[2, 3] .^ 2, 2 .^ [0, 1, -1], [4, 9] .^ [2, -2 + 1]", "[4, 9] [1, 2, 0.5] [16, 0.1111111111111111]\n");
        gives("[1, 2] == [1, 3], [1, 2] ~= 2, 1 <= [0, 1, 2], [1, 2] >= 2, 1 > 0", "[1, 0] [1, 0] [0, 1, 1] [0, 1] 1\n");
        gives("\"ab\" == \"ab\", \"ab\" ~= \"ab\", \"ab\" == \"abc\", \"\" == \"\", \"a\" ~= \"b\"", "1 0 0 1 1\n");
        gives("[] + 1, zeros(0, 3) .* 2, 3 - []", "[] [] []\n");
        gives("-[1, -2], +[1, -2], ~[0, 5; 0, -1]", "[-1, 2] [1, -2] [1, 0; 1, 0]\n");
        shape("zeros(0, 3)'", 3, 0);
        fails("[1, 2] + [1; 2]", 4, 7);
        fails("zeros(0, 1) + zeros(1, 0)", 4, 12);
        fails("1 + \"a\"", 3, 2);
        fails("\"a\" + \"b\"", 3, 4);
        fails("\"a\" < \"b\"", 3, 4);
        fails("1 == \"a\"", 3, 2);
        fails("-\"a\"", 3, 0);
        fails("\"a\"'", 3, 3);
        fails("1 / 0", 7, 2);
        fails("0 / 0", 7, 2);
        fails("[1, 2] ./ [1, 0]", 7, 7);
        fails("1e308 + 1e308", 6, 6);
        fails("1e308 .* [1, 10]", 6, 6);
        fails("[1e200, 1] ./ [1e-200, 0]", 6, 11);
        fails("[1, 1e200] ./ [0, 1e-200]", 7, 11);
        fails("2 .^ 0.5", 8, 2);
        fails("2 .^ 1025", 8, 2);
        fails("2 .^ 1024", 6, 2);
        fails("0 .^ -1", 7, 2);
        fails("5e-324 .^ -1", 6, 7);
        fails("0.5 .^ -1024 + (1e-200 ^ -2)", 6, 4);
        fails("1e-200 ^ -2", 7, 7);
        gives("0 .^ 0, 1 .^ -1024, (-1) ^ 1023", "1 1 -1\n");
    }

    private static void products() {
        gives("[1, 2; 3, 4] * [5; 6]", "[17; 39]\n");
        gives("[1, 2] * [3; 4], [3; 4] * [1, 2]", "11 [3, 6; 4, 8]\n");
        gives("zeros(2, 0) * zeros(0, 2)", "[0, 0; 0, 0]\n");
        gives("[1, 1; 0, 1] ^ 5, [2, 0; 0, 3] ^ 0, [1, 2; 3, 4] ^ 1", "[1, 5; 0, 1] [1, 0; 0, 1] [1, 2; 3, 4]\n");
        gives("[1e308, 1] * [1; 1], 1e16 + 1 - 1e16", "1e308 0\n");
        fails("[1, 2] * [3, 4]", 4, 7);
        fails("ones(4096, 1) * ones(1, 2)", 4, 14);
        fails("zeros(4096, 0) * zeros(0, 4096)", 4, 15);
        fails("[1, 2] ^ 2", 4, 7);
        fails("2 ^ [1, 2]", 4, 2);
        fails("[1, 2; 3, 4] ^ [1, 2]", 4, 13);
        fails("[1, 2; 3, 4] ^ 65", 8, 13);
        fails("[1, 2; 3, 4] ^ -1", 8, 13);
        fails("[1, 2; 3, 4] ^ 0.5", 8, 13);
        fails("[1e200, 0; 0, 1] ^ 2", 6, 17);
        fails("\"a\" ^ 0.5", 3, 4);
    }

    private static void ranges() {
        gives("1:3, 1:0.5:2, 3:-1:1, 0:2:5", "[1, 2, 3] [1, 1.5, 2] [3, 2, 1] [0, 2, 4]\n");
        gives("1e308:1e308:1.7e308", "1e308\n");
        shape("2:1", 1, 0);
        shape("1:0:5", 1, 0);
        shape("1:-1:5", 1, 0);
        shape("1:4096", 1, 4096);
        fails("1:4097", 4, 1);
        fails("1e16:1e16 + 2 * 9000", 4, 4);
        fails("[1, 2]:3", 4, 6);
        fails("1:\"a\"", 3, 1);
        fails("[]:\"a\":2", 3, 2);
        fails("1:2:[]", 4, 1);
    }

    private static void brackets() {
        gives("[1, 2; 3, 4], [[1; 2], [3; 4]], [[1, 2]; 5, 6]", "[1, 2; 3, 4] [1, 3; 2, 4] [1, 2; 5, 6]\n");
        gives("[\"ab\", \"\", \"c\"], [[], \"x\"; [], zeros(0, 4)], [\"y\", []; []]", "abc x y\n");
        gives("[1, [], 2; []], [zeros(2, 0), [1; 2]], [zeros(0, 3); 7]", "[1, 2] [1; 2] 7\n");
        shape("[]", 0, 0);
        shape("[zeros(0, 3)]", 0, 0);
        shape("[zeros(0, 3), zeros(2, 0); zeros(0, 1)]", 0, 0);
        fails("[1, [2; 3]]", 4, 0);
        fails("[1, 2; 3]", 4, 0);
        fails("[1, \"a\"]", 3, 0);
        fails("[\"\", 1]", 3, 0);
        fails("[\"a\"; \"b\"]", 3, 0);
        fails("[\"a\"; 1]", 3, 0);
        fails("[1; \"\"]", 3, 0);
        fails("[ones(64, 64), ones(64, 1)]", 4, 0);
        fails("[ones(64, 64); ones(1, 64)]", 4, 0);
        fails("1 + [1, [2, [3; 4]]]", 4, 8);
        fails("[1, [2; 3], 1 / 0]", 4, 0);
    }

    private static void building() {
        gives("zeros(1, 2), ones(2, 1), eye(2), eye(0)", "[0, 0] [1; 1] [1, 0; 0, 1] []\n");
        gives("rows(ones(2, 3)), cols(ones(2, 3)), count(ones(2, 3)), size(ones(2, 3))", "2 3 6 2\n");
        gives("rows(\"abc\"), cols(\"abc\"), count(\"abc\"), size(\"abc\"), count(\"\")", "1 3 3 1 0\n");
        gives("kron([1, 2], [1; 3]), kron([1, 0; 0, 1], [5, 6])", "[1, 2; 3, 6] [5, 6, 0, 0; 0, 0, 5, 6]\n");
        gives("diag([1, 2]), diag([3; 4]), diag(5), diag([1, 2; 3, 4; 5, 6])", "[1, 0; 0, 2] [3, 0; 0, 4] 5 [1; 4]\n");
        gives("tril([1, 2; 3, 4]), triu([1, 2; 3, 4]), tril([1, 2, 3]), triu([1; 2])", "[1, 0; 3, 4] [1, 2; 0, 4] [1, 0, 0] [1; 0]\n");
        gives("reshape(1:4, 2, 2), repeat([1, 2; 3, 4], 1, 2), repeat(7, 2, 2)", "[1, 2; 3, 4] [1, 2, 1, 2; 3, 4, 3, 4] [7, 7; 7, 7]\n");
        gives("find([0, 3; 4, 0]), find(0), trace([1, 2; 3, 4; 5, 6]), trace([])", "[2; 3] [] 5 0\n");
        shape("zeros(0, 4096)", 0, 4096);
        shape("diag(zeros(1, 0))", 0, 0);
        shape("diag([])", 0, 1);
        shape("diag(zeros(0, 3))", 0, 1);
        shape("find(zeros(1, 3))", 0, 1);
        shape("repeat([1, 2], 0, 3)", 0, 6);
        shape("reshape([], 4096, 0)", 4096, 0);
        shape("kron(zeros(0, 2), ones(3, 2))", 0, 4);
        fails("zeros(65, 64)", 4, 0);
        fails("zeros(4097, 0)", 8, 0);
        fails("zeros(-1, 0)", 8, 0);
        fails("ones(1.5, 9999)", 8, 0);
        fails("ones([1, 2], 9999)", 4, 0);
        fails("ones(9999, \"a\")", 3, 0);
        fails("eye(65)", 4, 0);
        fails("reshape(1:4, 3, 2)", 4, 0);
        fails("reshape(1:4, 0.5, 8)", 8, 0);
        fails("repeat(1:4, 1025, 1)", 4, 0);
        fails("repeat(zeros(0, 4096), 0, 2)", 4, 0);
        fails("kron(ones(65, 1), ones(1, 64))", 4, 0);
        fails("kron(zeros(0, 4096), zeros(0, 2))", 4, 0);
        fails("kron(1e200, [1, 1e200])", 6, 0);
        fails("diag(1:65)", 4, 0);
    }

    private static void sums() {
        gives("sum([1, 2; 3, 4]), sum([1, 2; 3, 4], 1), sum([1, 2; 3, 4], 2), sum([])", "10 [4, 6] [3; 7] 0\n");
        gives("prod([2, 3; 4, 5]), prod([]), cumsum([1, 2; 3, 4])", "120 1 [1, 3; 6, 10]\n");
        gives("min([3, 1; 1, 2]), max([3, 9; 9, 2]), any([0, 0]), any([0, 2]), all([1, 2]), all([1, 0])", "1 9 0 1 1 0\n");
        gives("any([]), all([])", "0 1\n");
        gives("dot([1, 2], [3; 4]), norm([3; 4]), dot([], []), norm([])", "11 5 0 0\n");
        gives("sum([1e16, 1, -1e16]), sum([1e16, -1e16, 1])", "0 1\n");
        shape("sum(zeros(0, 3), 1)", 1, 3);
        shape("sum(zeros(3, 0), 2)", 3, 1);
        shape("cumsum(zeros(0, 3))", 0, 3);
        Desk.prints("[m, i] = min([3, 1; 1, 2]); [n, j] = max([3, 9; 9, 2]); print m, i, n, j;", "1 2 9 2\n");
        Desk.prints("[s, i] = sort([2, 1; 2, 0]); print s, i;", "[0, 1; 2, 2] [4, 2; 1, 3]\n");
        fails("sum(1, 3)", 8, 0);
        fails("sum(1, [1, 2])", 4, 0);
        fails("sum(1, \"a\")", 3, 0);
        fails("sum(\"a\")", 3, 0);
        fails("prod(1, 1)", 11, 0);
        fails("min([])", 4, 0);
        fails("max(zeros(1, 0))", 4, 0);
        fails("dot([1, 2], 3)", 4, 0);
        fails("sum([1e308, 1e308, -1e308])", 6, 0);
        fails("sum([1, 1e308; 2, 1e308], 1)", 6, 0);
        fails("prod([1e200, 1e200, 0])", 6, 0);
        fails("cumsum([1e308, 1e308])", 6, 0);
        fails("norm([1e200, 0])", 6, 0);
        fails("dot(1e200, 1e200)", 6, 0);
        fails("trace([1e308, 0; 0, 1e308])", 6, 0);
    }

    private static void singles() {
        gives("abs([-1, 2]), floor([1.5, -1.5]), ceil([1.5, -1.5]), round([2.5, -2.5, 0.49999999999999994])",
            "[1, 2] [1, -2] [2, -1] [3, -3, 0]\n");
        gives("sign([-5, 0, 7]), floor(1e300), round(4503599627370497.5), ceil(-0.5)", "[-1, 0, 1] 1e300 4503599627370498 0\n");
        gives("sqrt([4, 2, 0]), sqrt(5e-324), sqrt(1.7976931348623157e308)",
            "[2, 1.4142135623730951, 0] 2.2227587494850775e-162 1.3407807929942596e154\n");
        gives("mod([5, -5], 3), mod(5, -3), mod(5.5, 2), mod(1:3, [2, 2, 2])", "[2, 1] -1 1.5 [1, 0, 1]\n");
        gives("text(1 / 3), text(-0), count(text(100))", "0.3333333333333333 0 3\n");
        fails("sqrt([1, -1])", 8, 0);
        fails("mod(1, 0)", 7, 0);
        fails("mod(1:2, 1:3)", 4, 0);
        fails("mod(1e308, 1e-10)", 6, 0);
        fails("abs(\"a\")", 3, 0);
        fails("text([1, 2])", 4, 0);
        fails("text(\"a\")", 3, 0);
        fails("fault(1)", 11, 0);
        for (int i = 1; i < 400; i++) {
            double x = i * i * 1.37e-5 / (i % 7 + 1);
            gives("sqrt(" + plain(x) + ") == " + plain(Math.sqrt(x)), "1\n");
        }
    }

    private static String plain(double x) {
        return Double.toString(x).replace("E", "e");
    }

    private static void solving() {
        gives("[2, 1; 1, 3] \\ [3; 5]", "[0.8; 1.4]\n");
        gives("[0, 2; 4, 0] \\ [2, 4; 8, 12]", "[2, 3; 1, 2]\n");
        gives("[2, 4] / [2, 0; 0, 4]", "[1, 1]\n");
        gives("[0; 2] \\ [6; 8], [6, 8] / [0, 2]", "4 4\n");
        gives("det([1, 2; 3, 4]), det([0, 1; 1, 0]), det([1, 2; 2, 4]), det([]), det(zeros(2, 2))", "-2 -1 0 1 0\n");
        gives("inv([2, 0; 0, 4]), inv([]), inv([0, 1; 1, 0])", "[0.5, 0; 0, 0.25] [] [0, 1; 1, 0]\n");
        gives("chol([4, 2; 2, 5]), chol([4, 99; 2, 5]), chol([])", "[2, 0; 1, 2] [2, 0; 1, 2] []\n");
        Desk.prints("[l, u, r] = lu([1, 2; 4, 4]); print l, u, r; l = lu([1, 2; 4, 4]); print l;",
            "[1, 0; 0.25, 1] [4, 4; 0, 1] [2; 1]\n[1, 0; 0.25, 1]\n");
        Desk.prints("[q, r] = qr([3; 4]); print q, r;", "[-0.6000000000000001, -0.8; -0.8, 0.6] [-5; 0]\n");
        Desk.prints("[q, r] = qr([0, 1; 0, 2]); print q, r; [q, r] = qr(zeros(2, 0)); print q, rows(r), cols(r);",
            "[1, 0; 0, 1] [0, 1; 0, 2]\n[1, 0; 0, 1] 2 0\n");
        Desk.prints("[v, w] = eig([2, 0; 0, 1]); print v, w; [v, w] = eig([]); print rows(v), cols(v), rows(w);",
            "[1; 2] [0, 1; 1, 0]\n0 1 0\n");
        Desk.prints("[v, w] = eig([0, 1; 1, 0]); print v;", "[-1; 1]\n");
        Desk.prints("[z, p] = proved([2, 1; 1, 3], [3; 5]); print z, p; z = proved(1, 2); print z;", "[0.8; 1.4] 1\n2\n");
        Desk.prints("[z, p] = proved(1, 1e-310); print p; [z, p] = proved([], zeros(0, 1)); print p;", "2\n1\n");
        Desk.prints("[z, p] = proved([1, 1e-200; 1e-200, 1], [1; 1]); print p;", "2\n");
        fails("[1, 2; 2, 4] \\ [1; 2]", 9, 13);
        fails("[1, 2] \\ 1", 4, 7);
        fails("[1, 2; 3, 4] \\ 1", 4, 13);
        fails("ones(65, 2) \\ ones(65, 1)", 4, 12);
        fails("ones(3, 2) \\ [1; 2; 3]", 9, 11);
        fails("\"a\" \\ 1", 3, 4);
        fails("1 / \"a\"", 3, 2);
        fails("[1, 2] / [1, 2; 2, 4]", 9, 7);
        fails("1 / [1, 2]", 4, 2);
        fails("[1e-308, 0; 0, 1] \\ [1e10; 1]", 6, 18);
        fails("det([1, 2])", 4, 0);
        fails("det([1e200, 0; 0, 1e200])", 6, 0);
        fails("inv([1, 2; 2, 4])", 9, 0);
        fails("inv(5e-324)", 6, 0);
        fails("lu([0, 0; 0, 0])", 9, 0);
        fails("lu([1, 2, 3])", 4, 0);
        fails("chol([1, 2; 2, 1])", 10, 0);
        fails("chol([0])", 10, 0);
        fails("chol([1, 2])", 4, 0);
        fails("qr([1, 2])", 4, 0);
        fails("qr(ones(65, 1))", 4, 0);
        fails("qr([1e200; 1])", 6, 0);
        gives("qr([1e-163; 1e-163])", "[1, 0; 0, 1]\n");
        fails("eig([1, 2; 3, 4])", 8, 0);
        fails("eig([1, 2])", 4, 0);
        fails("eig([0, 1; 1, 1e300])", 6, 0);
        fails("proved([1, 2; 3, 4], [1, 2])", 4, 0);
        fails("proved([1; 2], [1; 2])", 4, 0);
        fails("proved([1, 1; 1, 1], [1; 2])", 9, 0);
    }

    /** The going up by r tells of the fault that it comes to first: row m's before row 1's, column 1's before 2's. */
    private static void goingUp() {
        fails("[0, 1; 0, 1; 0, 1] \\ [1; 1; 1]", 9, 19);
        fails("[0, 1e-150; 0, 1e-150; 0, 1e-150] \\ [1e200; 1e200; 1e200]", 6, 34);
        fails("[1e200, 1e200, 1e200] / [0, 0, 0; 1e-150, 1e-150, 1e-150]", 6, 22);
        // Row 2 has 0 in the diagonal, and row 1 would not be finite.
        fails("[1e-150, 0; 0, 0; 0, 0] \\ [1e200; 0; 0]", 9, 24);
        fails("[0; 0] \\ [1; 1]", 9, 7);
        // Column 1 comes to row 1 before column 2 comes to row 2, and the other way.
        fails("[0, 1e-150; 0, 1e-150; 0, 1e-150] \\ [1, 1e200; 1, 1e200; 1, 1e200]", 9, 34);
        fails("[0, 1e-150; 0, 1e-150; 0, 1e-150] \\ [1e200, 1; 1e200, 1; 1e200, 1]", 6, 34);
        // What row 1 takes away is not finite, ahead of the 0 by which it would divide.
        fails("[0, 1e300; 0, 1e-10; 0, 0] \\ [1; 1; 0]", 6, 27);
        fails("[0, 1e297; 0, 1e-10; 0, 0] \\ [1; 1; 0]", 9, 27);
        // What q' * y comes to stands before all looks at r.
        fails("[0, 1; 0, 1; 0, 1] \\ [1.7e308; 1.7e308; 1.7e308]", 6, 19);
        gives("rows([0; 0] \\ zeros(2, 0)), cols([0; 0] \\ zeros(2, 0))", "1 0\n");
        gives("[1, 1; 1, 2; 1, 3] \\ zeros(3, 2) == zeros(2, 2)", "[1, 1; 1, 1]\n");
    }

    public static void main(String[] args) {
        grouping();
        numberByNumber();
        products();
        ranges();
        brackets();
        building();
        sums();
        singles();
        solving();
        goingUp();
        Desk.finish();
    }
}
