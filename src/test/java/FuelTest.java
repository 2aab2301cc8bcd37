import java.util.function.IntUnaryOperator;

/** FUEL, sentence by sentence: what takes how much, at what place, and where the thirty-seconds are rounded. */
public final class FuelTest {
    private static final int FUEL = 14;
    private static final int[] COUNTS = { 0, 1, 31, 32, 33, 63, 64, 95, 96, 2047, 2048 };

    private static void ends(String marked, int fuel) {
        Desk.faultAt(marked, fuel, FUEL);
    }

    /** x is 1:n for some n; the expression takes so much beyond, and a part by n. */
    private static void costs(String marked, int others, IntUnaryOperator byCount) {
        for (int n : COUNTS) {
            Desk.takes("x = 1:" + n + "; y = " + marked + ";", 4 + n / 32 + 1 + others + byCount.applyAsInt(n));
        }
    }

    private static void costs(String marked, int others) {
        costs(marked, others, n -> n / 32);
    }

    private static void alwaysCosts(String marked, int others) {
        costs(marked, others, n -> 0);
    }

    /** "By each statement 1 (place: its first token)". */
    private static void statements() {
        for (String first : new String[] { "x = 1;", "x(1) = 1;", "[a] = size(1);", "[1];", "[a, b];", "print 1;", "show 1;", "if (1) end",
            "while (1) end", "for (i = 1) end", "try catch end", "return;", "(1);", "-1;", "1;", "\"a\";", "x;", "f(1);" }) {
            ends("@" + first, 0);
        }
        ends("while (1) @break; end", 3);
        ends("while (1) @continue; end", 3);
        ends("function f() @return; end f();", 2);
        Desk.takes("@return;", 1);
        Desk.takes("@try catch end", 1);
        Desk.takes("try @return; catch end", 2);
        Desk.takes("x = @1;", 2);
        Desk.takes("while (1) @break; end", 4);
        Desk.faults("", 0, 0, -1, 0);
        Desk.faults("function f() x = 1; end", 0, 0, -1, 0);
        Desk.faults("try catch x = 1; end", 1, 0, -1, 0);
        Desk.faults("if (0) x = 1; elseif (0) x = 2; else end", 3, 0, -1, 0);
    }

    /** "each asking of a while's condition 1 (while), each turn of a for 1 (for)". */
    private static void loops() {
        ends("@while (1) end", 1);
        ends("while (@1) end", 2);
        ends("@while (1) end", 3);
        ends("@while (1) end", 199999);
        Desk.takes("while (@0) end", 3);
        Desk.takes("k = 0; while (k @< 2) k = k + 1; end", 2 + 1 + 3 * 4 + 2 * 4);
        ends("@for (i = 1:3) end", 4);
        ends("@for (i = 1:3) end", 6);
        Desk.takes("@for (i = 1:3) end", 7);
        Desk.takes("for (i = 1@:0) end", 4);
        Desk.takes("@for (i = zeros(0, 2)) end", 1 + 3 + 2);
        Desk.faults("for (i = zeros(2, 0)) end", 4, 0, -1, 0);
    }

    /** "each NUMERAL, TEXT, NAME alone that has a value, and end 1; each call of a text's function 1". */
    private static void items() {
        Desk.takes("x = @5;", 2);
        Desk.takes("x = @\"" + Desk.times("t", 4096) + "\";", 2);
        Desk.takes("x = 5; y = @x;", 4);
        Desk.takes("x = ones(64, 64); y = @x;", 1 + 3 + 128 + 2);
        ends("x = 5; @x;", 2);
        Desk.faults("x = 5; x;", 4, 0, -1, 0);
        ends("x = 5; y = x(@end);", 3);
        Desk.takes("x = 5; y = x@(end);", 5);
        ends("x(@end + 1) = 5;", 1);
        ends("function f() end @f();", 0);
        ends("function f() end @f();", 1);
        Desk.faults("function f() end f();", 2, 0, -1, 0);
        Desk.faults("function f() end f;", 2, 0, -1, 0);
        ends("function r = f() r = 1; end x = @f();", 1);
        ends("function r = f() r = @1; end x = f();", 3);
        Desk.faults("function r = f() r = 1; end x = f();", 4, 0, -1, 0);
    }

    /** "each operation of two, of one, range, part that is read .. n / 32, n being how many numbers the result has". */
    private static void operations() {
        for (String sign : new String[] { "+", "-", ".*", "./", "*", "/", "==", "~=", "<", "<=", ">", ">=" }) {
            costs("x @" + sign + " 2", 3);
        }
        for (String sign : new String[] { "+", "-", ".*", "./", "*", "==", "<" }) {
            costs("2 @" + sign + " x", 3);
        }
        for (String sign : new String[] { "+", "-", ".*", "./", ">=" }) {
            costs("x @" + sign + " x", 3);
        }
        for (String sign : new String[] { "-", "+", "~" }) {
            costs("@" + sign + "x", 2);
        }
        costs("x@'", 2);
        costs("x@(:)", 1);
        costs("x@(:, :)", 1);
        costs("x@(1, :)", 2);
        costs("x@(x)", 2);
        alwaysCosts("x@([])", 1);
        Desk.takes("x = \"" + Desk.times("t", 64) + "\" @== \"" + Desk.times("t", 64) + "\";", 4);
        Desk.takes("x = 1 @+ 2;", 4);
        Desk.takes("x = 2 @* 3;", 4);
        Desk.takes("x = 2 @^ 3;", 4);
        for (int n : new int[] { 0, 31, 32, 63, 64, 4096 }) {
            Desk.takes("x = 1@:" + n + ";", 4 + n / 32);
            Desk.takes("x = 1@:1:" + n + ";", 5 + n / 32);
        }
    }

    /** ".^, ^ of a number, and sort 32 times (n / 32)"; "A '-' behind '^' or '.^' is an operation of one by itself." */
    private static void powers() {
        costs("x @.^ 2", 3, n -> n / 32 * 32);
        for (int n : new int[] { 1, 31, 32, 63, 64, 1024 }) {
            Desk.takes("x = 1:" + n + "; y = 1 @.^ x;", 4 + n / 32 + 4 + n / 32 * 32);
        }
        costs("@sort(x)", 2, n -> n / 32 * 32);
        Desk.takes("x = 2 @^ -3;", 5);
        ends("x = 2 ^ @-3;", 3);
        Desk.takes("x = ones(4, 8); y = 2 @.^ -x;", 5 + 1 + 1 + 1 + 2 + 33);
    }

    /** "part that is written ('(') .. as many numbers as are written / 32". */
    private static void writtenParts() {
        for (int n : new int[] { 1, 31, 32, 64, 4096 }) {
            Desk.takes("x = 1:" + n + "; x@(:) = 5;", 4 + n / 32 + 3 + n / 32);
            Desk.takes("x = 1:" + n + "; x@(:) = x;", 4 + n / 32 + 3 + n / 32);
            Desk.takes("x@(" + n + ") = 5;", 4);
            Desk.takes("x@(:, 1) = ones(" + n + ", 1);", 1 + 1 + 3 + n / 32 + 1 + n / 32);
        }
        Desk.takes("x@(64, 64) = 5;", 5);
        Desk.takes("x = 1:64; x@([]) = 5;", 6 + 3);
        Desk.takes("x = ones(8, 8); x@([1, 1, 2, 2], :) = 5;", 6 + 1 + 9 + 1 + 1 + 1);
    }

    /** "&& and || (when the left side is there)". */
    private static void logic() {
        Desk.takes("x = 1 && @1;", 4);
        Desk.takes("x = 0 @&& nosuch;", 3);
        Desk.takes("x = 1 @|| nosuch;", 3);
        ends("x = 1 @&& 1;", 2);
        Desk.takes("x = 0 && 1 @&& 1;", 4);
        Desk.takes("x = 1 || 1 @|| 1;", 4);
        Desk.takes("x = ones(64, 64) @|| 1;", 1 + 3 + 128 + 1);
    }

    /** "each value and each row that joins in '[ ]' ('[')", "'[ ]' when it is over its numbers or characters / 32". */
    private static void brackets() {
        costs("@[x]", 3);
        costs("@[x; x]", 6, n -> 2 * n / 32);
        costs("@[x, x]", 5, n -> 2 * n / 32);
        Desk.faults("x = [];", 1, 0, -1, 0);
        ends("x = @[1];", 2);
        ends("x = @[1];", 3);
        Desk.takes("x = @[1];", 4);
        Desk.takes("x = @[1, 2; 3, 4];", 1 + 4 + 4 + 2);
        ends("x = @[1, 2; 3, 4];", 5);
        ends("x = @[1, 2; 3, 4];", 10);
        Desk.faults("x = [[], []; []];", 1 + 3 + 2, 0, -1, 0);
        Desk.takes("x = @[\"" + Desk.times("t", 31) + "\", \"u\"];", 1 + 2 + 2 + 1 + 1);
        Desk.takes("x = @[\"" + Desk.times("t", 30) + "\", \"u\"];", 1 + 2 + 2 + 1);
    }

    /** "each call of a bench function (but error) 1 and .. n / 32, n being how many numbers .. the (first) result has". */
    private static void functionsByResult() {
        for (String f : new String[] { "abs", "sqrt", "floor", "ceil", "round", "sign", "cumsum", "tril", "triu", "find" }) {
            costs("@" + f + "(x)", 2);
        }
        costs("@mod(x, 3)", 3);
        costs("@mod(3, x)", 3);
        costs("@kron(x, 1)", 3);
        costs("@kron(1, x)", 3);
        costs("@repeat(x, 1, 1)", 4);
        costs("@repeat(x, 2, 1)", 4, n -> 2 * n / 32);
        costs("@reshape(x, 1, cols(x))", 5);
        costs("@sum(x, 1)", 3);
        costs("@zeros(1, cols(x))", 4);
        costs("@ones(cols(x), 1)", 4);
        alwaysCosts("@sum(x, 2)", 3);
        for (String f : new String[] { "rows", "cols", "count", "size", "sum", "any", "all", "norm", "trace" }) {
            alwaysCosts("@" + f + "(x)", 2);
        }
        alwaysCosts("@dot(x, x)", 3);
        Desk.takes("x = 1:64; y = @min(x);", 6 + 3);
        Desk.takes("x = 1:64; y = @max(x);", 6 + 3);
        Desk.takes("x = ones(8, 8); y = @prod(x);", 6 + 3);
        Desk.takes("x = zeros(8, 8); y = @find(x);", 6 + 3);
        Desk.takes("x = @eye(5);", 3);
        Desk.takes("x = @eye(6);", 4);
        Desk.takes("x = 1:6; y = @diag(x);", 4 + 3 + 1);
        Desk.takes("x = eye(6); y = @diag(x);", 4 + 3);
        Desk.takes("x = @fault();", 2);
        Desk.takes("x = @fault;", 2);
        Desk.takes("x = ones(8, 8); [y, z] = @sort(x);", 6 + 3 + 64);
        Desk.takes("x = ones(8, 8); [y, z] = @min(x);", 6 + 3);
        ends("@abs(ones(8, 8));", 7);
        Desk.faults("abs(ones(8, 8));", 1 + 5 + 3, 0, -1, 0);
    }

    /** "(but error)", "text 7". */
    private static void textAndError() {
        Desk.takes("x = @text(1);", 1 + 1 + 8);
        ends("x = @text(1);", 2);
        Desk.faults("error(\"a\");", 2, 16, 0, 0);
        Desk.faults("error(\"a\");", 3, 16, 0, 1);
        ends("error(@\"a\");", 1);
    }

    /** "x * y and each such product of x ^ y, x being r by k and y k by c (neither being one number, if not both are)". */
    private static void products() {
        int[][] shapes = { { 1, 31, 1, 0 }, { 1, 32, 1, 1 }, { 4, 4, 1, 0 }, { 4, 4, 2, 1 }, { 2, 16, 2, 2 }, { 3, 7, 3, 1 }, { 3, 7, 4,
            2 },
            { 64, 64, 64, 8192 }, { 8, 0, 8, 0 }, { 0, 8, 4, 0 } };
        for (int[] s : shapes) {
            int made = 1 + 3 + s[0] * s[1] / 32 + 1 + 3 + s[1] * s[2] / 32;
            Desk.takes("x = ones(" + s[0] + ", " + s[1] + "); y = ones(" + s[1] + ", " + s[2] + "); z = x @* y;", made + 4 + s[3]);
        }
        Desk.takes("x = ones(8, 8); y = 2 @* x;", 6 + 4 + 2);
        Desk.takes("x = ones(3, 3); y = x @^ 64;", 4 + 4);
        Desk.takes("x = ones(5, 5) / 5; y = x @^ 1;", 6 + 4 + 3);
        Desk.takes("x = ones(5, 5) / 5; y = x @^ 3;", 6 + 4 + 9);
        Desk.takes("x = ones(4, 4) / 4; y = x @^ 0;", 6 + 4);
        Desk.takes("x = ones(4, 4) / 4; y = x @^ 1;", 6 + 4 + 2);
        Desk.takes("x = ones(4, 4) / 4; y = x @^ 2;", 6 + 4 + 4);
        Desk.takes("x = ones(4, 4) / 4; y = x @^ 64;", 6 + 4 + 128);
    }

    /** "Products of x ^ y behind the first one are taken alone": what a product comes to stands before the next one's fuel. */
    private static void productsAlone() {
        String x = "x = 1e200 * eye(4); y = x @^ 3;";
        ends(x, 8 + 2);
        ends(x, 8 + 3);
        ends(x, 8 + 3 + 1);
        Desk.faultAt(x, 8 + 3 + 2, 6);
    }

    /** "x \ y, x being n by m and y with c columns: n m (m + c) / 32 (x / y by matrices as y' \ x', and no more". */
    private static void divisions() {
        int[][] shapes = { { 2, 2, 5, 0 }, { 2, 2, 6, 1 }, { 4, 4, 1, 2 }, { 4, 4, 0, 2 }, { 4, 2, 1, 0 }, { 4, 2, 2, 1 }, { 64, 1, 63,
            128 }, { 16, 1, 1, 1 },
            { 15, 1, 1, 0 }, { 64, 0, 3, 0 }, { 0, 0, 4, 0 } };
        for (int[] s : shapes) {
            String x = s[0] == s[1] ? "eye(" + s[0] + ")" : "ones(" + s[0] + ", " + s[1] + ") + tril(ones(" + s[0] + ", " + s[1] + "))";
            int n = s[0] * s[1] / 32;
            int made = s[0] == s[1] ? 1 + 2 + n : 1 + 3 + n + 3 + n + 1 + n + 1 + n;
            int right = 1 + 3 + s[0] * s[2] / 32;
            Desk.takes("x = " + x + "; y = ones(" + s[0] + ", " + s[2] + "); z = x @\\ y;", made + right + 4 + s[3]);
            Desk.takes("x = " + x + "; y = ones(" + s[2] + ", " + s[0] + "); w = x'; z = y @/ w;", made + right + 3 + n + 4 + s[3]);
        }
        Desk.takes("x = 4 @\\ 2;", 4);
    }

    /** "proved as x \ y twice; inv n n (n + n) / 32; det, lu, chol n n n / 32; qr n n m / 32". */
    private static void factoring() {
        for (int n : new int[] { 0, 1, 2, 3, 4, 5, 6, 7, 8 }) {
            int made = 1 + 2 + n * n / 32;
            String x = "x = eye(" + n + "); ";
            Desk.takes(x + "y = @inv(x);", made + 3 + n * n * (n + n) / 32);
            Desk.takes(x + "y = @det(x);", made + 3 + n * n * n / 32);
            Desk.takes(x + "y = @lu(x);", made + 3 + n * n * n / 32);
            Desk.takes(x + "[y, z, w] = @lu(x);", made + 3 + n * n * n / 32);
            Desk.takes(x + "y = @chol(x);", made + 3 + n * n * n / 32);
            Desk.takes(x + "y = @qr(x);", made + 3 + n * n * n / 32);
            Desk.takes(x + "y = ones(" + n + ", 1); [z, p] = @proved(x, y);", made + 4 + 4 + 2 * (n * n * (n + 1) / 32));
            Desk.takes(x + "y = ones(" + n + ", 1); z = @proved(x, y);", made + 4 + 4 + 2 * (n * n * (n + 1) / 32));
        }
        Desk.takes("x = ones(4, 1); y = @qr(x);", 4 + 3);
        Desk.takes("x = ones(4, 2); y = @qr(x);", 4 + 3 + 1);
        Desk.takes("x = ones(6, 1); y = @qr(x);", 4 + 3 + 1);
        Desk.takes("x = ones(5, 1); y = @qr(x);", 4 + 3);
        Desk.takes("x = eye(64); y = @lu(x);", 3 + 128 + 3 + 8192);
    }

    /** "eig n n n / 32 for each turn, the first one's with the call's 1, others alone". */
    private static void turns() {
        for (int n : new int[] { 0, 1, 3, 4, 8 }) {
            Desk.takes("x = eye(" + n + "); y = @eig(x);", 1 + 2 + n * n / 32 + 3);
        }
        // Two ones beside the diagonal of equal numbers are gone after one turn.
        String one = "x = eye(4); x(1, 2) = 1; x(2, 1) = 1; ";
        Desk.takes(one + "y = @eig(x);", 3 + 2 * 5 + 3 + 2);
        ends(one + "y = @eig(x);", 3 + 2 * 5 + 3 + 1);
        ends("x = eye(4); x(1, 2) = 1; x(2, 1) = 1; x(3, 3) = 2; x(2, 3) = 1; x(3, 2) = 1; y = @eig(x);", 3 + 5 * 5 + 3 + 2);
        Desk.takes("x = [2, 1; 1, 2]; y = @eig(x);", 11 + 3);
    }

    /** "by print and show, when all their values are there, 8 for each number .. and, once, .. characters / 32 more". */
    private static void printing() {
        for (String word : new String[] { "print", "show" }) {
            Desk.takes("@" + word + " 1;", 1 + 1 + 8);
            ends("@" + word + " 1;", 2);
            Desk.takes("@" + word + " 1, 2;", 1 + 2 + 16);
            Desk.takes("x = ones(3, 4); @" + word + " x;", 4 + 2 + 96);
            Desk.faults(word + " [];", 1, 0, -1, 0);
            Desk.takes(word + " @\"" + Desk.times("t", 31) + "\";", 2);
            Desk.takes("@" + word + " \"" + Desk.times("t", 32) + "\";", 3);
            Desk.takes("@" + word + " \"" + Desk.times("t", 16) + "\", \"" + Desk.times("t", 16) + "\";", 1 + 2 + 1);
            Desk.takes(word + " \"" + Desk.times("t", 16) + "\", @\"" + Desk.times("t", 15) + "\";", 1 + 2);
            Desk.takes("@" + word + " 1, \"" + Desk.times("t", 64) + "\", [1, 2];", 1 + 1 + 1 + 5 + 24 + 2);
            Desk.takes("@" + word + " \"" + Desk.times("t", 4096) + "\";", 2 + 128);
        }
        Desk.same("nothing is written without the fuel", "", written("print 1, 2;", 18));
        Desk.same("with it", "1 2\n", written("print 1, 2;", 19));
    }

    private static String written(String text, int fuel) {
        Desk desk = new Desk();
        desk.run(text, fuel);
        return desk.output();
    }

    /** "FUEL is taken when something begins and nothing is wrong with it but what its numbers come to." */
    private static void faultsBeforeFuel() {
        Desk.faultAt("x = 1 @+ \"a\";", 3, 3);
        Desk.faultAt("x = @-\"a\";", 2, 3);
        Desk.faultAt("x = @abs(\"a\");", 2, 3);
        Desk.faultAt("@for (i = \"a\") end", 2, 3);
        Desk.faultAt("x = @size(1, 2);", 1, 11);
        Desk.faultAt("x = @nosuch;", 1, 2);
        Desk.faultAt("x = abs(@end);", 1, 2);
        Desk.faultAt("x = [1, 2] @+ [1, 2, 3];", 13, 4);
        Desk.faultAt("x = @zeros(65, 64);", 3, 4);
        Desk.faultAt("x = 1@:4097;", 3, 4);
        Desk.faultAt("x = @[1, \"a\"];", 4, 3);
        Desk.faultAt("x = 1; y = x@(2);", 4, 5);
        Desk.faultAt("x = 1; x@(0) = 2;", 5, 5);
        Desk.faultAt("x = 1; x(1) @= [];", 4, 4);
        Desk.faultAt("x = @sqrt(-1);", 3, 8);
        Desk.faultAt("x = 2 @^ 0.5;", 3, 8);
        Desk.faultAt("function f(n) @f(n + 1); end f(1);", 2 + 60 + 60 * 4, 13);
        ends("x = 1 @/ 0;", 3);
        Desk.faultAt("x = 1 @/ 0;", 4, 7);
        ends("x = @inv(0);", 2);
        Desk.faultAt("x = @inv(0);", 3, 9);
        ends("x = @chol(0);", 2);
        Desk.faultAt("x = @chol(0);", 3, 10);
        ends("x = 1e308 @* 10;", 3);
        Desk.faultAt("x = 1e308 @* 10;", 4, 6);
        ends("x = @eig([0, 1; 1, 1e300]);", 11);
        Desk.faultAt("x = @eig([0, 1; 1, 1e300]);", 12, 6);
    }

    /** "If there is not so much left, the fault is FUEL, and none is left." "FUEL is not caught." */
    private static void noneIsLeft() {
        Desk.faults("x = ones(64, 64);", 131, FUEL, 4, 0);
        Desk.faults("x = ones(64, 64);", 5, FUEL, 4, 0);
        Desk.faults("x = ones(64, 64);", 132, 0, -1, 0);
        Desk.faults("try x = ones(64, 64); catch y = 1; end", 100, FUEL, 8, 0);
        Desk.faults("try while (1) end catch end", 1000, FUEL, 4, 0);
        Desk.faults("try try error(\"a\"); catch while (1) end end catch end", 1001, FUEL, 26, 0);
        Desk desk = new Desk();
        Desk.same("run", FUEL, desk.run("a = 1; x = ones(64, 64); b = 2;", 100));
        Desk.same("what was done before it stays", "1x1: 1.0", desk.value("a"));
        Desk.same("and no more", "none", desk.value("x"));
    }

    public static void main(String[] args) {
        statements();
        loops();
        items();
        operations();
        powers();
        writtenParts();
        logic();
        brackets();
        functionsByResult();
        textAndError();
        products();
        productsAlone();
        divisions();
        factoring();
        turns();
        printing();
        faultsBeforeFuel();
        noneIsLeft();
        Desk.finish();
    }
}
