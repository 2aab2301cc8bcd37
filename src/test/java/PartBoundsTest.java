/** The edges of EXPRESSIONS and PARTS, sentence by sentence: order, CALLS, '[ ]', ranges, parts read and written. */
public final class PartBoundsTest {
    private static final int NAME = 2;
    private static final int KIND = 3;
    private static final int SHAPE = 4;
    private static final int INDEX = 5;
    private static final int ZERO = 7;
    private static final int DOMAIN = 8;
    private static final int COUNT = 11;

    private static void gives(String expression, String due) {
        Desk.prints("x = [1, 2, 3; 4, 5, 6]; t = \"ab\"; print " + expression + ";", due + "\n");
    }

    /** The shape and the numbers of a name behind the statements. */
    private static void leaves(String statements, String shapeAndNumbers) {
        Desk.prints(statements + " print rows(a), cols(a), a;", shapeAndNumbers + "\n");
    }

    /** "EXPRESSIONS are worked out from left to right, both sides before the operation". */
    private static void leftToRight() {
        Desk.faultAt("x = (1 @/ 0) + nosuch;", ZERO);
        Desk.faultAt("x = @nosuch + 1 / 0;", NAME);
        Desk.faultAt("x = \"a\" + (1 @/ 0);", ZERO);
        Desk.faultAt("x = [1, 2] * (1 @/ 0) * \"a\";", ZERO);
        Desk.faultAt("x = [\"a\", 1 @/ 0, 1];", ZERO);
        Desk.faultAt("x = mod(1 @/ 0, nosuch);", ZERO);
        Desk.faultAt("x = mod(@nosuch, 1 / 0);", NAME);
        Desk.faultAt("x = 1 @/ 0:nosuch;", ZERO);
        Desk.faultAt("x = \"a\":(1 @/ 0):nosuch;", ZERO);
        Desk.faultAt("print @nosuch, 1 / 0;", NAME);
        Desk.prints("function r = f(x) print x; r = x; end y = f(1) + f(2) * f(3); z = [f(4), f(5); f(6)', f(7)];",
            "1\n2\n3\n4\n5\n6\n7\n");
    }

    /** "(but '&&' and '||': the right side only if the left one is TRUE, or is not; they give 1 or 0 by TRUE)". */
    private static void logic() {
        gives("0 && nosuch, 1 || nosuch, [] && nosuch, [1, 0] && nosuch, t && nosuch, -3 || nosuch", "0 1 0 0 0 1");
        gives("2 && 3, 2 && 0, 2 && [], 2 && t, 0 || 5, 0 || 0, 0 || t, [] || [1, 2]", "1 0 0 0 1 0 0 1");
        gives("0 && nosuch && nosuch, 1 || nosuch || nosuch, 0 && nosuch || 2, 1 || nosuch && nosuch", "0 1 1 1");
        Desk.faultAt("x = 1 && @nosuch;", NAME);
        Desk.faultAt("x = 0 || @nosuch;", NAME);
        Desk.faultAt("x = \"a\" || @nosuch;", NAME);
        Desk.faultAt("x = 0 && nosuch || @nosuch;", NAME);
    }

    /** "a NAME without a value in the frame is a call without arguments". */
    private static void namesAlone() {
        Desk.prints("function r = f() r = 5; end print f + 1, f() + 1; f = 7; print f + 1;", "6 6\n8\n");
        Desk.prints("print fault + 1; fault = 8; print fault + 1;", "1\n9\n");
        Desk.faultAt("x = @abs;", COUNT);
        Desk.faultAt("x = @nosuch;", NAME);
        Desk.faultAt("function r = f() r = @x; end x = 1; y = f();", NAME);
        Desk.faultAt("function r = f(a, b) r = a + @b; end y = f(1);", NAME);
        Desk.prints("function r = f(a, b) r = a; end print f(1), f(1, 2);", "1 1\n");
    }

    /** "if it has a value when they begin, a PART: KIND of a text, COUNT if there are not one or two arguments". */
    private static void partOrCall() {
        Desk.faultAt("x = 1; y = x@();", COUNT);
        gives("x(1), x(1, 2)", "1 2");
        Desk.faultAt("x = 1; y = x@(1, 1, 1);", COUNT);
        Desk.faultAt("x = 1; y = x@(nosuch, nosuch, nosuch);", COUNT);
        Desk.faultAt("t = \"ab\"; y = t@(1);", KIND);
        Desk.faultAt("t = \"\"; y = t@(nosuch);", KIND);
        Desk.faultAt("t = \"ab\"; y = t@(:);", KIND);
        Desk.faultAt("t = \"ab\"; y = t@(end);", KIND);
        Desk.prints("abs = [4, 5]; print abs(2);", "5\n");
        Desk.faultAt("abs = [4, 5]; y = abs@(-2);", INDEX);
    }

    /** "'end' is how many numbers (one argument), rows (the first of two), columns (the second) it has." */
    private static void ends() {
        gives("x(end), x(end, 1), x(1, end), x(end, end), x(end - 1), x(end / 2)", "6 4 3 6 5 3");
        gives("x(x(end, 1) - 2), x(1, x(1, end)), x(:, end), x(end, :)", "2 3 [3; 6] [4, 5, 6]");
        gives("x([1, end]), x((end)), x(-(-end))", "[1, 6] 6 6");
        Desk.prints("e = zeros(0, 4); print count(e(:, end)), e(1:end);", "0 []\n");
        Desk.prints("y = 7; print y(end), y(end, end);", "7 7\n");
    }

    /** "COUNT, if it has fewer results than it is asked for .., or does not take so many arguments: before the arguments". */
    private static void counts() {
        Desk.faultAt("x = @abs();", COUNT);
        Desk.faultAt("x = @abs(nosuch, nosuch);", COUNT);
        Desk.faultAt("x = @mod(nosuch);", COUNT);
        Desk.faultAt("x = @fault(nosuch);", COUNT);
        Desk.faultAt("x = @sum(nosuch, nosuch, nosuch);", COUNT);
        Desk.faultAt("x = @sum();", COUNT);
        Desk.faultAt("x = @reshape(1, 2);", COUNT);
        Desk.faultAt("x = @error(nosuch);", COUNT);
        Desk.faultAt("@error();", COUNT);
        Desk.faultAt("@error(\"a\", \"b\");", COUNT);
        Desk.faultAt("function f(a) end @f(1, nosuch);", COUNT);
        Desk.faultAt("function r = f() r = 1; end [a, b] = @f(nosuch);", COUNT);
        Desk.prints("function r = f(a, b, c, d, e, f, g, h) r = h; end print f(1, 2, 3, 4, 5, 6, 7, 8);", "8\n");
    }

    /** Each bench function takes so many arguments and has so many results, no fewer and no more. */
    private static void countsOfBenchFunctions() {
        String[] all = { "zeros 2 2 1", "ones 2 2 1", "eye 1 1 1", "rows 1 1 1", "cols 1 1 1", "count 1 1 1", "size 1 1 2", "sum 1 2 1",
            "prod 1 1 1", "min 1 1 2", "max 1 1 2", "any 1 1 1", "all 1 1 1", "cumsum 1 1 1", "abs 1 1 1", "sqrt 1 1 1", "floor 1 1 1",
            "ceil 1 1 1", "round 1 1 1", "sign 1 1 1", "mod 2 2 1", "dot 2 2 1", "norm 1 1 1", "kron 2 2 1", "trace 1 1 1", "diag 1 1 1",
            "tril 1 1 1", "triu 1 1 1", "reshape 3 3 1", "repeat 3 3 1", "find 1 1 1", "sort 1 1 2", "lu 1 1 3", "det 1 1 1", "inv 1 1 1",
            "chol 1 1 1", "qr 1 1 2", "eig 1 1 2", "proved 2 2 2", "text 1 1 1", "error 1 1 0", "fault 0 0 1" };
        String[] targets = { "", "a", "a, b", "a, b, c", "a, b, c, d" };
        String[] arguments = { "", "1", "1, 1", "1, 1, 1", "1, 1, 1, 1" };
        for (String line : all) {
            String[] part = line.split(" ");
            int least = Integer.parseInt(part[1]);
            int most = Integer.parseInt(part[2]);
            int results = Integer.parseInt(part[3]);
            for (int n = 0; n <= 4; n++) {
                String call = part[0] + "(" + arguments[n] + ");";
                if (n < least || n > most) {
                    Desk.faultAt("@" + call, COUNT);
                } else if (!part[0].equals("error")) {
                    Desk.same(call, 0, new Desk().run(call));
                }
            }
            for (int n = 1; n <= 4; n++) {
                String call = part[0] + "(" + arguments[least] + ");";
                if (n > results) {
                    Desk.faultAt("[" + targets[n] + "] = @" + call, COUNT);
                } else {
                    Desk.same(n + " results of " + call, 0, new Desk().run("[" + targets[n] + "] = " + call));
                }
            }
        }
    }

    /** "('end' there is NAME, ':' KIND, at that token, when it is come to behind the arguments before it.)" */
    private static void endsAndColonsOfCalls() {
        Desk.faultAt("x = abs(@end);", NAME);
        Desk.faultAt("x = abs(1 + 2 * @end);", NAME);
        Desk.faultAt("x = abs(@:);", KIND);
        Desk.faultAt("x = mod(1 @/ 0, :);", ZERO);
        Desk.faultAt("x = mod(@:, 1 / 0);", KIND);
        Desk.faultAt("x = mod(1 @/ 0, end);", ZERO);
        Desk.faultAt("x = mod(@end, 1 / 0);", NAME);
        Desk.faultAt("x = @nosuch(end);", NAME);
        Desk.faultAt("x = @abs(:, 1);", COUNT);
        Desk.faultAt("x = @abs(end, 1);", COUNT);
        Desk.faultAt("function r = f(a) r = a; end x = f(@end);", NAME);
        Desk.faultAt("function r = f(a) r = a; end x = f(@:);", KIND);
        Desk.faultAt("y = 1:3; x = y(abs(@end));", NAME);
        Desk.prints("y = 1:3; print abs(y(end));", "3\n");
        Desk.prints("function r = f(a) a(end + 1) = 4; r = a; end print f([1, 2]);", "[1, 2, 4]\n");
    }

    /** "matrices without numbers, also whole rows of these, are left out, whatever their shape, also beside .. a text". */
    private static void leftOut() {
        leaves("a = [];", "0 0 []");
        leaves("a = [[]];", "0 0 []");
        leaves("a = [zeros(0, 3)];", "0 0 []");
        leaves("a = [zeros(3, 0)];", "0 0 []");
        leaves("a = [zeros(0, 3), zeros(2, 0)];", "0 0 []");
        leaves("a = [zeros(2, 0), zeros(0, 3), zeros(1, 0)];", "0 0 []");
        leaves("a = [zeros(2, 0); zeros(0, 3)];", "0 0 []");
        leaves("a = [zeros(2, 0); zeros(0, 3), zeros(5, 0)];", "0 0 []");
        leaves("a = [zeros(2, 0), zeros(5, 0); zeros(0, 3)];", "0 0 []");
        leaves("a = [1, zeros(3, 0)];", "1 1 1");
        leaves("a = [zeros(3, 0), 1];", "1 1 1");
        leaves("a = [zeros(3, 0), zeros(0, 2), 1, []];", "1 1 1");
        leaves("a = [[1; 2], zeros(0, 9), [3; 4]];", "2 2 [1, 3; 2, 4]");
        leaves("a = [zeros(0, 3); 1, 2];", "1 2 [1, 2]");
        leaves("a = [1, 2; zeros(0, 3)];", "1 2 [1, 2]");
        leaves("a = [1, 2; zeros(0, 3), zeros(7, 0); 3, 4];", "2 2 [1, 2; 3, 4]");
        leaves("a = [zeros(1, 0), \"ab\", zeros(0, 5)];", "1 2 ab");
        leaves("a = [[], []; \"ab\", []];", "1 2 ab");
        leaves("a = [\"ab\"; zeros(3, 0), []];", "1 2 ab");
        leaves("a = [\"\", zeros(3, 0)];", "1 0 ");
        leaves("a = [zeros(3, 0), \"\"];", "1 0 ");
        leaves("a = [zeros(3, 0); \"\"; []];", "1 0 ");
    }

    /** "values beside one another need as many rows, rows below one another as many columns (SHAPE at '[')". */
    private static void joining() {
        leaves("a = [[1; 2], [3; 4]];", "2 2 [1, 3; 2, 4]");
        leaves("a = [[1, 2]; [3, 4]; 5, 6];", "3 2 [1, 2; 3, 4; 5, 6]");
        leaves("a = [[1, 2; 3, 4], [5; 6]; 7, 8, 9];", "3 3 [1, 2, 5; 3, 4, 6; 7, 8, 9]");
        Desk.faultAt("a = @[[1; 2], 3];", SHAPE);
        Desk.faultAt("a = @[3, [1; 2]];", SHAPE);
        Desk.faultAt("a = @[[1; 2], [1; 2; 3]];", SHAPE);
        Desk.faultAt("a = @[1, 2; 3];", SHAPE);
        Desk.faultAt("a = @[1; 2, 3];", SHAPE);
        Desk.faultAt("a = @[1, [2; 3], nosuch];", SHAPE);
        Desk.faultAt("a = @[1, 2; 3; nosuch];", SHAPE);
        Desk.faultAt("a = [1, 2; 3, @nosuch];", NAME);
    }

    /** "texts, also those without characters, join with texts in one row only (KIND at '[' otherwise; also for two rows with one)". */
    private static void joiningTexts() {
        leaves("a = [\"ab\"];", "1 2 ab");
        leaves("a = [\"ab\", \"\", \"c\"];", "1 3 abc");
        leaves("a = [\"\"];", "1 0 ");
        leaves("a = [\"\", \"\"];", "1 0 ");
        for (String bad : new String[] { "\"a\", 1", "1, \"a\"", "\"\", 1", "1, \"\"", "\"a\"; \"b\"", "\"\"; \"\"", "\"a\"; \"\"",
            "1; \"a\"", "\"a\"; 1",
            "1; \"\"", "\"\"; 1", "\"a\", [1; 2]", "\"a\"; 1, 2", "\"a\", \"b\"; []; \"c\"" }) {
            Desk.faultAt("a = @[" + bad + "];", KIND);
        }
    }

    /** "b, b + d, (b + d) + d .., as one row, as long as it is finite and not above c (below, if d is below 0)". */
    private static void ranges() {
        leaves("a = 1:3;", "1 3 [1, 2, 3]");
        leaves("a = 1:3.9;", "1 3 [1, 2, 3]");
        leaves("a = 1.5:3.5;", "1 3 [1.5, 2.5, 3.5]");
        leaves("a = 1:1;", "1 1 1");
        leaves("a = 1:0.999;", "1 0 []");
        leaves("a = 1:0;", "1 0 []");
        leaves("a = 3:-1:1;", "1 3 [3, 2, 1]");
        leaves("a = 3:-1:3;", "1 1 3");
        leaves("a = 3:-1:3.1;", "1 0 []");
        leaves("a = 1:0:1;", "1 0 []");
        leaves("a = 1:-0:1;", "1 0 []");
        leaves("a = 1:-1:2;", "1 0 []");
        leaves("a = 0:0.1:0.3;", "1 3 [0, 0.1, 0.2]");
        leaves("a = 0:0.1:0.30000000000000004;", "1 4 [0, 0.1, 0.2, 0.30000000000000004]");
        leaves("a = 1e308:1e308:1.7e308;", "1 1 1e308");
        leaves("a = 0:1e308:1.7976931348623157e308;", "1 2 [0, 1e308]");
        leaves("a = -1e308:-1e308:-1.7976931348623157e308;", "1 1 -1e308");
        Desk.faultAt("a = 1e300@:1e301;", SHAPE);
        leaves("a = 1e300:1e299;", "1 0 []");
        Desk.faultAt("a = [1, 2]@:3;", SHAPE);
        Desk.faultAt("a = 1@:[];", SHAPE);
        Desk.faultAt("a = 1@:[1, 2]:3;", SHAPE);
        Desk.faultAt("a = 1@:2:[3, 4];", SHAPE);
        Desk.faultAt("a = []@:\"a\";", KIND);
        Desk.faultAt("a = 1@:\"a\":[];", KIND);
    }

    /** "x .^ y: y must be a whole number from -1024 to 1024 (DOMAIN)"; "x ^ y: .. y whole, from 0 to 64 (DOMAIN)". */
    private static void powers() {
        gives("1 .^ 1024, 1 .^ -1024, (-1) .^ 1023, 2 .^ 1023 / 2 .^ 1022, 2 .^ -1022 * 2 .^ 1022", "1 1 -1 2 1");
        gives("1 ^ 1024, 1 ^ -1024, 0 ^ 0, 0 .^ 0, 5 ^ 0, (-2) ^ 3, 2 ^ -2", "1 1 1 1 1 -8 0.25");
        Desk.faultAt("x = 1 @.^ 1025;", DOMAIN);
        Desk.faultAt("x = 1 @.^ -1025;", DOMAIN);
        Desk.faultAt("x = 1 @^ 1025;", DOMAIN);
        Desk.faultAt("x = 1 @^ -1025;", DOMAIN);
        Desk.faultAt("x = 1 @.^ 0.5;", DOMAIN);
        Desk.faultAt("x = [1, 2] @.^ [1, 0.5];", DOMAIN);
        Desk.faultAt("x = 2 @^ 1024;", 6);
        Desk.faultAt("x = 0 @^ -1;", ZERO);
        Desk.faultAt("x = 1e-200 @.^ -2;", ZERO);
        Desk.faultAt("x = 1e200 @.^ -2;", 6);
        Desk.faultAt("x = 5e-324 @^ -1;", 6);
        gives("eye(2) ^ 64, eye(2) ^ 0, [2, 0; 0, 3] ^ 2, [1, 2; 3, 4] ^ 1, [] ^ 3",
            "[1, 0; 0, 1] [1, 0; 0, 1] [4, 0; 0, 9] [1, 2; 3, 4] []");
        Desk.faultAt("x = eye(2) @^ 65;", DOMAIN);
        Desk.faultAt("x = eye(2) @^ -1;", DOMAIN);
        Desk.faultAt("x = eye(2) @^ 0.5;", DOMAIN);
        Desk.faultAt("x = [] @^ 65;", DOMAIN);
        Desk.faultAt("x = [1, 2] @^ 2;", SHAPE);
        Desk.faultAt("x = 2 @^ [1, 2];", SHAPE);
        Desk.faultAt("x = eye(2) @^ eye(2);", SHAPE);
        Desk.faultAt("x = eye(2) @^ [];", SHAPE);
    }

    /** "number by number of two matrices of one shape, or of a matrix and a number". */
    private static void oneShape() {
        gives("[1, 2] + [3, 4], 1 + [3, 4], [3, 4] + 1, [] + [], [] + 1, 1 + []", "[4, 6] [4, 5] [4, 5] [] [] []");
        for (String sign : new String[] { "+", "-", ".*", "./", ".^", "==", "~=", "<", "<=", ">", ">=" }) {
            Desk.faultAt("x = [1, 2] @" + sign + " [1; 2];", SHAPE);
            Desk.faultAt("x = [1, 2] @" + sign + " [1, 2, 3];", SHAPE);
            Desk.faultAt("x = [1, 2] @" + sign + " [];", SHAPE);
            Desk.faultAt("x = zeros(0, 3) @" + sign + " zeros(3, 0);", SHAPE);
            Desk.prints("x = 2 " + sign + " zeros(0, 3); print rows(x), cols(x);", "0 3\n");
            Desk.prints("x = zeros(3, 0) " + sign + " 2; print rows(x), cols(x);", "3 0\n");
            Desk.faultAt("x = \"a\" @" + sign + " 1;", KIND);
            Desk.faultAt("x = 1 @" + sign + " \"a\";", KIND);
        }
        for (String sign : new String[] { "+", "-", ".*", "./", ".^", "<", "<=", ">", ">=", "*", "/", "\\", "^" }) {
            Desk.faultAt("x = \"a\" @" + sign + " \"a\";", KIND);
        }
        gives("1 < 1, 1 <= 1, 1 > 1, 1 >= 1, 1 == 1, 1 ~= 1", "0 1 0 1 1 0");
        gives("1 < 2, 2 <= 1, 1 > 2, 2 >= 1, 1 == 2, 1 ~= 2", "1 0 0 1 0 1");
        gives("-0 == 0, -0 < 0, 5e-324 > 0, ~0, ~-0, ~5e-324, -[0, 1]", "1 0 1 1 1 0 [0, -1]");
        gives("t == \"ab\", t == \"aB\", t == \"a\", t ~= \"abc\", \"\" == \"\", \"\" ~= t", "1 0 0 1 1 1");
    }

    /** "v(i): i a matrix of whole numbers from 1 to how many there are (KIND; INDEX otherwise): .. in the shape of i". */
    private static void partsByOne() {
        gives("x(1), x(6), x([6, 1]), x([1; 6]), x([1, 2; 5, 6])", "1 6 [6, 1] [1; 6] [1, 2; 5, 6]");
        for (String bad : new String[] { "0", "7", "-1", "1.5", "0.9999999999999999", "6.000000000000001", "1e300", "[1, 7]", "[0; 1]",
            "4097", "2147483648",
            "4294967297" }) {
            Desk.faultAt("x = [1, 2, 3; 4, 5, 6]; y = x@(" + bad + ");", INDEX);
        }
        Desk.faultAt("x = []; y = x@(1);", INDEX);
        Desk.faultAt("x = 1:3; y = x@(\"a\");", KIND);
        leaves("x = 1:3; a = x([]);", "0 0 []");
        leaves("x = 1:3; a = x(zeros(0, 5));", "0 5 []");
        leaves("x = []; a = x(zeros(5, 0));", "5 0 [; ; ; ; ]");
        leaves("x = [1, 2; 3, 4]; a = x(:);", "4 1 [1; 2; 3; 4]");
        leaves("x = zeros(0, 5); a = x(:);", "0 1 []");
        leaves("x = 5; a = x(:);", "1 1 5");
        leaves("x = 5; a = x([1, 1; 1, 1]);", "2 2 [5, 5; 5, 5]");
    }

    /** "v(i, j): rows i, columns j (by their numbers in order), each row's numbers in the order of j; ':' all of them." */
    private static void partsByTwo() {
        gives("x(1, 1), x(2, 3), x(2, [3, 1]), x([2, 1], 3), x([2, 1], [3, 1, 1])", "1 6 [6, 4] [6; 3] [6, 4, 4; 3, 1, 1]");
        gives("x(:, 2), x(2, :), x(:, :), x([1; 2], [1; 2])", "[2; 5] [4, 5, 6] [1, 2, 3; 4, 5, 6] [1, 2; 4, 5]");
        gives("x([1, 2; 2, 1], 1)", "[1; 4; 4; 1]");
        for (String bad : new String[] { "0, 1", "3, 1", "1, 0", "1, 4", "1.5, 1", "1, 1.5", "-1, 1", "1, -1", "[1, 3], 1", "1, [1, 4]",
            "3, :", ":, 4", "3, []",
            "[], 4" }) {
            Desk.faultAt("x = [1, 2, 3; 4, 5, 6]; y = x@(" + bad + ");", INDEX);
        }
        Desk.faultAt("x = 1:3; y = x@(\"a\", 1);", KIND);
        Desk.faultAt("x = 1:3; y = x@(1, \"a\");", KIND);
        leaves("x = ones(2, 3); a = x([], :);", "0 3 []");
        leaves("x = ones(2, 3); a = x(:, []);", "2 0 [; ]");
        leaves("x = zeros(0, 3); a = x(:, [1, 3]);", "0 2 []");
    }

    /** "e is one number, or has as many numbers as the part, taken in order (SHAPE at '=', looked at before the indexes' INDEX)". */
    private static void writtenValues() {
        leaves("a = 1:4; a(2:3) = [8, 9];", "1 4 [1, 8, 9, 4]");
        leaves("a = 1:4; a(2:3) = [8; 9];", "1 4 [1, 8, 9, 4]");
        leaves("a = 1:4; a([3, 2]) = [8, 9];", "1 4 [1, 9, 8, 4]");
        leaves("a = 1:4; a(2:3) = 7;", "1 4 [1, 7, 7, 4]");
        leaves("a = 1:4; a([]) = 7; a([]) = [];", "1 4 [1, 2, 3, 4]");
        leaves("a = [1, 2; 3, 4]; a([2, 1], :) = [5, 6; 7, 8];", "2 2 [7, 8; 5, 6]");
        leaves("a = [1, 2; 3, 4]; a(:, [2, 1]) = 5:8;", "2 2 [6, 5; 8, 7]");
        leaves("a = [1, 2; 3, 4]; a(:) = [5, 6, 7, 8];", "2 2 [5, 6; 7, 8]");
        leaves("a = 1:3; a([2, 2, 2]) = [7, 8, 9];", "1 3 [1, 9, 3]");
        leaves("a = [1, 2]; a([1, 1], [2, 2]) = 5:8;", "1 2 [1, 8]");
        for (String bad : new String[] { "(1:2) @= 1:3", "(1:2) @= []", "(1) @= [1, 2]", "(1) @= []", "(:) @= 1:3", "(:) @= []",
            "(1, :) @= 1:3", "(:, :) @= 1:3",
            "([]) @= [1, 2]", "(1, []) @= [1, 2]", "(0) @= [1, 2]", "(1.5, 1) @= [1, 2]", "([0, 9]) @= 1:3" }) {
            Desk.faultAt("a = [1, 2; 3, 4]; a" + bad + ";", SHAPE);
        }
        Desk.faultAt("a = 1; a@(\"b\") = 1;", KIND);
        Desk.faultAt("a = 1; a@(1, \"b\") = 1;", KIND);
        Desk.faultAt("a = 1; a(1) @= \"b\";", KIND);
        Desk.faultAt("a = 1; a(1) @= \"\";", KIND);
        Desk.faultAt("a(1) @= \"b\";", KIND);
    }

    /** "An index that is not whole, below 1, or above 1073741824: INDEX at '('." */
    private static void writtenIndexes() {
        for (String bad : new String[] { "0", "-1", "1.5", "0.5", "1073741825", "1e300", "[1, 0]", "[1, 1073741825]", "4294967297" }) {
            Desk.faultAt("a = 1:3; a@(" + bad + ") = 1;", INDEX);
            Desk.faultAt("a@(" + bad + ") = 1;", INDEX);
            Desk.faultAt("a = 1:3; a@(" + bad + ", 1) = 1;", INDEX);
            Desk.faultAt("a = 1:3; a@(1, " + bad + ") = 1;", INDEX);
        }
        for (String far : new String[] { "1073741824", "1073741824, 1", "1, 1073741824", "1073741824, 1073741824", "1073741824, []",
            "[], 1073741824" }) {
            Desk.faultAt("a@(" + far + ") = 1;", SHAPE);
        }
        Desk.faultAt("a = 1:3; a@(1073741824) = 1;", SHAPE);
        Desk.faultAt("a = [1, 2; 3, 4]; a@(1073741824) = 1;", INDEX);
        Desk.faultAt("a@(1073741824, 0) = 1;", INDEX);
    }

    /** "One above what there is lets a grow (also when the part has no numbers), filled with 0: a(i, j) by rows and columns". */
    private static void growingByTwo() {
        leaves("a = 1; a(2, 3) = 5;", "2 3 [1, 0, 0; 0, 0, 5]");
        leaves("a = [1, 2; 3, 4]; a(3, 1) = 5;", "3 2 [1, 2; 3, 4; 5, 0]");
        leaves("a = [1, 2; 3, 4]; a(1, 3) = 5;", "2 3 [1, 2, 5; 3, 4, 0]");
        leaves("a = [1, 2; 3, 4]; a(2, 2) = 5;", "2 2 [1, 2; 3, 5]");
        leaves("a = [1, 2; 3, 4]; a(:, 3) = [5; 6];", "2 3 [1, 2, 5; 3, 4, 6]");
        leaves("a = [1, 2; 3, 4]; a(3, :) = [5, 6];", "3 2 [1, 2; 3, 4; 5, 6]");
        leaves("a = 1; a(3, []) = 9;", "3 1 [1; 0; 0]");
        leaves("a = 1; a([], 3) = 9;", "1 3 [1, 0, 0]");
        leaves("a = zeros(2, 0); a(1, 2) = 5;", "2 2 [0, 5; 0, 0]");
        leaves("a = zeros(0, 3); a(1, 2) = 5;", "1 3 [0, 5, 0]");
        leaves("a(64, 64) = 1; a = a(64, 63:64);", "1 2 [0, 1]");
        Desk.faultAt("a@(65, 64) = 1;", SHAPE);
        Desk.faultAt("a@(64, 65) = 1;", SHAPE);
        Desk.faultAt("a = ones(64, 64); a@(65, 1) = 1;", SHAPE);
        Desk.faultAt("a = ones(64, 64); a@(1, 65) = 1;", SHAPE);
        leaves("a(4096, 1) = 1; a = count(a);", "1 1 4096");
        leaves("a(1, 4096) = 1; a = count(a);", "1 1 4096");
        leaves("a(4096, []) = 1; a = size(a');", "1 1 0");
        Desk.faultAt("a@(4097, 1) = 1;", SHAPE);
        Desk.faultAt("a@(4097, []) = 1;", SHAPE);
        Desk.faultAt("a@([], 4097) = 1;", SHAPE);
    }

    /** "a(i) only if a has no numbers (it is one row then), one row, or one column; otherwise INDEX". */
    private static void growingByOne() {
        leaves("a(3) = 5;", "1 3 [0, 0, 5]");
        leaves("a = zeros(0, 7); a(2) = 5;", "1 2 [0, 5]");
        leaves("a = zeros(7, 0); a(2) = 5;", "1 2 [0, 5]");
        leaves("a = zeros(0, 1); a([1, 2]) = [5, 6];", "1 2 [5, 6]");
        leaves("a = 1; a(3) = 5;", "1 3 [1, 0, 5]");
        leaves("a = [1, 2]; a(4) = 5;", "1 4 [1, 2, 0, 5]");
        leaves("a = [1; 2]; a(4) = 5;", "4 1 [1; 2; 0; 5]");
        leaves("a = [1, 2; 3, 4]; a(4) = 5;", "2 2 [1, 2; 3, 5]");
        Desk.faultAt("a = [1, 2; 3, 4]; a@(5) = 5;", INDEX);
        Desk.faultAt("a = [1, 2; 3, 4]; a@([1, 5]) = 5;", INDEX);
        Desk.faultAt("a = [1, 2; 3, 4]; a@(4097) = 5;", INDEX);
        leaves("a = 1; a(4096) = 5; a = count(a);", "1 1 4096");
        Desk.faultAt("a = 1; a@(4097) = 5;", SHAPE);
        Desk.faultAt("a = [1; 2]; a@(4097) = 5;", SHAPE);
        Desk.faultAt("a@(4097) = 5;", SHAPE);
    }

    /** "If a has no numbers, ':' is 1, 2, .. up to: for a(:) how many e has, a being one column then (0 by 1, if e has none)". */
    private static void colonsByOne() {
        leaves("a(:) = 5;", "1 1 5");
        leaves("a(:) = 1:3;", "3 1 [1; 2; 3]");
        leaves("a(:) = [1, 2; 3, 4];", "4 1 [1; 2; 3; 4]");
        leaves("a(:) = [];", "0 1 []");
        leaves("a = zeros(0, 7); a(:) = [];", "0 1 []");
        leaves("a = zeros(7, 0); a(:) = zeros(0, 3);", "0 1 []");
        leaves("a = zeros(7, 0); a(:) = 1:2;", "2 1 [1; 2]");
        leaves("a = [1, 2]; a(:) = 3;", "1 2 [3, 3]");
        leaves("a(:) = ones(64, 64); a = count(a);", "1 1 4096");
    }

    /** "for a(:, j) and a(i, :) how many e has divided by how many the other one has (SHAPE at '=', if .. not whole, or by 0)". */
    private static void colonsByTwo() {
        leaves("a(:, 2) = [5; 6];", "2 2 [0, 5; 0, 6]");
        leaves("a(2, :) = [5, 6];", "2 2 [0, 0; 5, 6]");
        leaves("a(:, [1, 2]) = 1:4;", "2 2 [1, 2; 3, 4]");
        leaves("a([1, 2], :) = 1:4;", "2 2 [1, 2; 3, 4]");
        leaves("a(:, 1) = 5;", "1 1 5");
        leaves("a(:, [1, 2]) = [];", "0 2 []");
        leaves("a([1, 2], :) = [];", "2 0 [; ]");
        leaves("a = zeros(0, 3); a(:, 1) = [7; 8];", "2 3 [7, 0, 0; 8, 0, 0]");
        leaves("a = zeros(3, 0); a(:, 1) = [7; 8];", "3 1 [7; 8; 0]");
        Desk.faultAt("a(:, [1, 2]) @= 1:3;", SHAPE);
        Desk.faultAt("a([1, 2], :) @= 1:3;", SHAPE);
        Desk.faultAt("a(:, [1, 2]) @= 5;", SHAPE);
        Desk.faultAt("a([1, 2], :) @= 5;", SHAPE);
        Desk.faultAt("a(:, []) @= [];", SHAPE);
        Desk.faultAt("a([], :) @= [];", SHAPE);
        Desk.faultAt("a(:, []) @= 1:2;", SHAPE);
        Desk.faultAt("a(:, []) @= 5;", SHAPE);
        leaves("a = [1, 2]; a(:, []) = 5; a([], :) = []; a(:, []) = [];", "1 2 [1, 2]");
    }

    /** "for a(:, :) e's rows and columns". */
    private static void colonsOfBoth() {
        leaves("a(:, :) = 5;", "1 1 5");
        leaves("a(:, :) = [1, 2; 3, 4];", "2 2 [1, 2; 3, 4]");
        leaves("a(:, :) = [];", "0 0 []");
        leaves("a(:, :) = zeros(0, 3);", "0 3 []");
        leaves("a(:, :) = zeros(3, 0);", "3 0 [; ; ]");
        leaves("a = zeros(3, 0); a(:, :) = [1, 2];", "3 2 [1, 2; 0, 0; 0, 0]");
        leaves("a = [1, 2; 3, 4]; a(:, :) = 5:8;", "2 2 [5, 6; 7, 8]");
    }

    public static void main(String[] args) {
        leftToRight();
        logic();
        namesAlone();
        partOrCall();
        ends();
        counts();
        countsOfBenchFunctions();
        endsAndColonsOfCalls();
        leftOut();
        joining();
        joiningTexts();
        ranges();
        powers();
        oneShape();
        partsByOne();
        partsByTwo();
        writtenValues();
        writtenIndexes();
        growingByTwo();
        growingByOne();
        colonsByOne();
        colonsByTwo();
        colonsOfBoth();
        Desk.finish();
    }
}
