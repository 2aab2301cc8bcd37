/** Promises 6 and 7: run and left: statements, values, faults with their places, fuel, and the tank. */
public final class RunTest {
    private static int thrownBy(EquationBench x, int fuel) {
        try {
            x.run(fuel);
            return 0;
        } catch (IllegalArgumentException e) {
            return 1;
        } catch (IllegalStateException e) {
            return 2;
        }
    }

    private static void throwsAsTold() {
        Desk desk = new Desk();
        EquationBench x = desk.bench;
        Desk.same("no program", 2, thrownBy(x, 200000));
        Desk.same("fuel comes first", 1, thrownBy(x, -1));
        desk.compile("(");
        Desk.same("no program yet", 2, thrownBy(x, 0));
        Desk.same("place stays", 1, x.place());
        desk.compile("x = 1 / 0;");
        Desk.same("run", 7, x.run(10));
        Desk.same("-1", 1, thrownBy(x, -1));
        Desk.same("200001", 1, thrownBy(x, 200001));
        Desk.same("least", 1, thrownBy(x, Integer.MIN_VALUE));
        Desk.same("most", 1, thrownBy(x, Integer.MAX_VALUE));
        Desk.same("place stays", 6, x.place());
        Desk.same("left stays", 6, x.left());
        Desk.same("200000", 7, x.run(200000));
        Desk.same("left of 200000", 199996, x.left());
    }

    private static void emptyPrograms() {
        Desk desk = new Desk();
        Desk.same("compile", 0, desk.compile(""));
        Desk.same("run(0)", 0, desk.bench.run(0));
        Desk.same("left", 0, desk.bench.left());
        Desk.same("run(7)", 0, desk.bench.run(7));
        Desk.same("left of 7", 7, desk.bench.left());
        desk.compile("function f() end");
        Desk.same("a function takes nothing", 0, desk.bench.run(0));
        desk.compile("x;");
        Desk.same("run(0) of a statement", 14, desk.bench.run(0));
        Desk.same("its place", 0, desk.bench.place());
    }

    private static void theTank() {
        Desk desk = new Desk();
        desk.compile("while (1) end");
        for (int i = 0; i < 19; i++) {
            Desk.same("run", 14, desk.bench.run(200000));
        }
        desk.compile("x = 1;");
        Desk.same("the tank has 200000", 0, desk.bench.run(200000));
        Desk.same("left", 199998, desk.bench.left());
        Desk.same("the tank has 199998", 0, desk.bench.run(200000));
        Desk.same("left of less", 199996, desk.bench.left());
        desk.compile("while (1) end");
        Desk.same("all that is there", 14, desk.bench.run(199995));
        desk.compile("x = 2;");
        Desk.same("the tank has 1", 14, desk.bench.run(5));
        Desk.same("none is left", 0, desk.bench.left());
        Desk.same("nor in the tank", 14, desk.bench.run(200000));
        Desk.same("x", "1x1: 1.0", desk.value("x"));
        desk.compile("");
        Desk.same("nothing needs none", 0, desk.bench.run(200000));
        Desk.same("left of none", 0, desk.bench.left());
    }

    private static void statements() {
        Desk.prints("x = 3; if (x < 2) print 1; elseif (x < 4) print 2; elseif (1) print 3; else print 4; end", "2\n");
        Desk.prints("if ([1, 0]) print 1; elseif ([]) print 2; elseif (\"a\") print 3; else print 4; end", "4\n");
        Desk.prints("if ([1, -2; 0.5, 3]) print 1; end if (0) else print 2; end", "1\n2\n");
        Desk.prints("k = 0; while (k < 5) k = k + 1; if (k == 2) continue; end if (k == 4) break; end print k; end", "1\n3\n");
        Desk.prints("for (v = [1, 2; 3, 4]) print v; end for (v = 7) print v; end for (v = 1:0) print v; end",
            "[1; 3]\n[2; 4]\n7\n");
        Desk.prints("for (v = zeros(0, 2)) print size(v), cols(v); end", "0 1\n0 1\n");
        Desk.prints("x = 1:3; for (i = x) x = i; end print x, i;", "3 3\n");
        Desk.prints("for (i = 1:3) for (j = 1:3) if (j == 2) break; end print i, j; end end", "1 1\n2 1\n3 1\n");
        Desk.prints("for (i = 1:2) try break; catch end end print i; try x = nosuch; catch print fault(); end", "1\n2\n");
        Desk.prints("for (i = 1:3) try if (i == 2) continue; end y = 1 / 0; catch print i; end end", "1\n3\n");
        Desk.prints("print 1; return; print 2;", "1\n");
        Desk.prints("function f() print 1; return; print 2; end f(); f; print 3;", "1\n1\n3\n");
        Desk.prints("[a, ~, c] = lu([0, 2; 3, 4]); print a, c;", "[1, 0; 0, 1] [2; 1]\n");
        Desk.prints("a = 1; [a, b] = size(ones(2, 3)); print a, b;", "2 3\n");
        Desk.prints("x = 5; function r = g() r = x; end try print g(); catch print fault(); end", "2\n");
    }

    private static void tries() {
        Desk.prints("print fault(); try error(\"a\"); catch end print fault(); try x = \"a\" + 1; catch print fault(); end",
            "0\n16\n3\n");
        Desk.prints("try try x = 1 / 0; catch y = [1, 2] + [1, 2, 3]; end catch print fault(); end", "4\n");
        Desk.prints("function f(n) if (n == 0) error(\"deep\"); end f(n - 1); end try f(20); catch print fault(); end x = 1; print x;",
            "16\n1\n");
        Desk.prints("function r = f() try r = 1; return; catch end end x = f(); try y = f() / 0; catch print x, fault(); end",
            "1 7\n");
        Desk.faults("try while (1) end catch x = 1; end", 100, 14, 4, 0);
        Desk.faults("try x = 1 / 0; catch y = 1 / 0; end", 100, 7, 27, 91);
        Desk desk = new Desk();
        desk.run("try a = 1; b = 2 / 0; c = 3; catch d = 4; end");
        Desk.same("a stays", "1x1: 1.0", desk.value("a"));
        Desk.same("b never was", "none", desk.value("b"));
        Desk.same("c neither", "none", desk.value("c"));
        Desk.same("d", "1x1: 4.0", desk.value("d"));
        Desk.same("the fault of the run before", 0, desk.run("x = fault();"));
        Desk.same("is none of this run", "1x1: 0.0", desk.value("x"));
    }

    private static void functions() {
        Desk.prints("function r = f(n) if (n < 2) r = 1; else r = n * f(n - 1); end end print f(5);", "120\n");
        Desk.prints("print g(2); function r = g(x) r = x + 1; end", "3\n");
        Desk.prints("function [a, b] = f(x, y) a = x; b = y; end print f(1, 9); [p, q] = f(2, 3); print p, q;", "1\n2 3\n");
        Desk.prints("function r = abs(x) r = 7; end print abs(-1); abs = [5, 6]; print abs(2);", "7\n6\n");
        Desk.prints("function r = f(x) r = x; end f = [4, 5]; [a] = f(2); print f(2), a;", "5 2\n");
        Desk.prints("function x = f(x) end print f(3), f(4);", "3 4\n");
        Desk.faults("function r = f(x) r = x; end y = f();", 100, 2, 22, 97);
        Desk.faults("function r = f(x) end y = f(1);", 100, 2, 26, 97);
        Desk.faults("function [r, s] = f() r = 1; end [a, b] = f();", 100, 2, 42, 96);
        Desk.faults("function [r, s] = f() r = 1; end a = f();", 100, 0, -1, 96);
        Desk.faults("function f() end x = f();", 100, 11, 21, 99);
        Desk.faults("function f() end f(1 / 0);", 100, 11, 17, 99);
        Desk.faults("function r = f() end [a, b] = f();", 100, 11, 30, 99);
        Desk.faults("x = nosuch(1 / 0);", 100, 2, 4, 99);
        Desk.faults("nosuch;", 100, 2, 0, 99);
        Desk.faults("x = size(1, 2);", 100, 11, 4, 99);
        Desk.faults("[a, b, c] = size(1);", 100, 11, 12, 99);
        Desk.faults("x = error(\"a\");", 100, 11, 4, 99);
        Desk.faults("error(1);", 100, 3, 0, 98);
        Desk.faults("error(\"a\");", 100, 16, 0, 98);
        Desk.faults("x = abs(end);", 100, 2, 8, 99);
        Desk.faults("x = abs(1:end);", 100, 2, 10, 98);
        Desk.faults("x = mod(1, :);", 100, 3, 11, 98);
        Desk.faults("function r = f(n) r = f(n + 1); end f(1);", 10000, 13, 22, 10000 - 302);
        Desk.same("60 open calls", "60\n", new Desk().printed("function r = f(n) if (n == 60) r = n; else r = f(n + 1); end end print f(1);"));
    }

    private static void parts() {
        Desk.prints("x = [1, 2; 3, 4]; print x(3), x(1, 2), x(end), x(end, 1), x(1, end), x(:), x(:, 1), x(2, :);",
            "3 2 4 3 2 [1; 2; 3; 4] [1; 3] [3, 4]\n");
        Desk.prints("x = 5:9; print x([1, 2; 5, 1]), x([]), x(zeros(1, 0)), x(1, []), x([], 1), x(1, [1, 1]);",
            "[5, 6; 9, 5] [] [] [] [] [5, 5]\n");
        Desk.prints("x = 5:9; print x(end - 1:end), x(x(1) - 4), x(:, :);", "[8, 9] 5 [5, 6, 7, 8, 9]\n");
        Desk.prints("x = zeros(0, 3); y = x(:); print size(y), cols(y), cols(x(:, 1)), count(x(:, :));", "0 1 1 0\n");
        Desk.faults("x = 1:3; y = x(4);", 100, 5, 14, 94);
        Desk.faults("x = 1:3; y = x(0);", 100, 5, 14, 94);
        Desk.faults("x = 1:3; y = x(1.5);", 100, 5, 14, 94);
        Desk.faults("x = 1:3; y = x(2, 1);", 100, 5, 14, 93);
        Desk.faults("x = 1:3; y = x(1, 4);", 100, 5, 14, 93);
        Desk.faults("x = 1:3; y = x([], 4);", 100, 5, 14, 94);
        Desk.faults("x = 1:3; y = x(\"a\");", 100, 3, 14, 94);
        Desk.faults("x = 1:3; y = x();", 100, 11, 14, 95);
        Desk.faults("x = 1:3; y = x(1 / 0, 2, 3);", 100, 11, 14, 95);
        Desk.faults("x = \"abc\"; y = x(1 / 0);", 100, 3, 16, 97);
        Desk.faults("x = ones(64, 1); y = x(x, [x, x]);", 1000, 4, 22, 983);
    }

    private static void writtenParts() {
        Desk.prints("a(3) = 5; b(2, 2) = 1; a(end + 1) = 7; print a, b;", "[0, 0, 5, 7] [0, 0; 0, 1]\n");
        Desk.prints("a = [1; 2]; a(4) = 9; b = 1; b(2) = 3; print a, b;", "[1; 2; 0; 9] [1, 3]\n");
        Desk.prints("a = [1, 2; 3, 4]; a(3, 1) = 5; a(:, 3) = [7, 8, 9]; print a;", "[1, 2, 7; 3, 4, 8; 5, 0, 9]\n");
        Desk.prints("a = [1, 2; 3, 4]; a(:) = 5:8; a(1, :) = 0; a([4, 4]) = [1, 2]; print a;", "[0, 0; 7, 2]\n");
        Desk.prints("a = [1, 2; 3, 4]; a(:, :) = [9, 8; 7, 6]; a([2, 1], 2) = [1; 3]; print a;", "[9, 3; 7, 1]\n");
        Desk.prints("a(:) = 1:3; b(:, 2) = 1:3; c(2, :) = 1:3; d(:, :) = [1, 2; 3, 4]; print a, b, c, d;",
            "[1; 2; 3] [0, 1; 0, 2; 0, 3] [0, 0, 0; 1, 2, 3] [1, 2; 3, 4]\n");
        Desk.prints("a([]) = 5; print rows(a), cols(a); a(:) = []; print rows(a), cols(a);", "0 0\n0 1\n");
        Desk.prints("a = zeros(0, 3); a(2, 1) = 5; b = zeros(3, 0); b(2) = 4; c = zeros(0, 3); c(:) = [1, 2]; print a, b, c;",
            "[0, 0, 0; 5, 0, 0] [0, 4] [1; 2]\n");
        Desk.prints("a = 1; a(3, []) = 1; print a; a([], 2) = []; print a;", "[1; 0; 0]\n[1, 0; 0, 0; 0, 0]\n");
        Desk.prints("a(:, :) = zeros(2, 0); print rows(a), cols(a); b = zeros(0, 5); b(:, :) = 5; print b;",
            "2 0\n[5, 0, 0, 0, 0]\n");
        Desk.prints("a(:, [1, 2]) = []; print rows(a), cols(a);", "0 2\n");
        Desk.prints("a = 1:3; a(1:3) = a * 2; print a;", "[2, 4, 6]\n");
        Desk.faults("a = \"t\"; a(1 / 0) = 1;", 100, 3, 10, 97);
        Desk.faults("a(\"t\") = \"u\";", 100, 3, 1, 97);
        Desk.faults("a(1) = \"u\";", 100, 3, 5, 97);
        Desk.faults("a = 1:3; a(1:2) = 1:3;", 100, 4, 16, 89);
        Desk.faults("a = 1:3; a(0) = 1:2;", 100, 4, 14, 91);
        Desk.faults("a = 1:3; a(0) = 1;", 100, 5, 10, 93);
        Desk.faults("a = 1:3; a(1.5) = 1;", 100, 5, 10, 93);
        Desk.faults("a(1073741824) = 1;", 100, 4, 1, 97);
        Desk.faults("a(1073741825) = 1;", 100, 5, 1, 97);
        Desk.faults("a(4097) = 1;", 100, 4, 1, 97);
        Desk.faults("a(65, 64) = 1;", 100, 4, 1, 96);
        Desk.faults("a = [1, 2; 3, 4]; a(5) = 1;", 100, 5, 19, 86);
        Desk.faults("a(:, [1, 2]) = 5;", 100, 4, 13, 93);
        Desk.faults("a(:, [1, 2]) = 1:3;", 200, 4, 13, 191);
        Desk.faults("a(:, []) = [];", 100, 4, 9, 99);
        Desk.faults("a = ones(64, 64); a(:) = 5;", 1000, 0, -1, 1000 - 4 - 128 - 1 - 1 - 1 - 128);
        Desk.faults("a = 1; a(1, 2) = 3; a(1, 5) = 4;", 11, 14, 21, 0);
    }

    private static void waiting() {
        String open = "function r = g(a, b, c, d, e, f, g, h) r = 1; end x = ";
        StringBuilder calls = new StringBuilder(open);
        for (int i = 0; i < 36; i++) {
            calls.append("g(1,1,1,1,1,1,1,");
        }
        int at = calls.length();
        StringBuilder closing = new StringBuilder();
        for (int i = 0; i < 36; i++) {
            closing.append(')');
        }
        Desk.same("256 values wait", 0, new Desk().run(calls + "[1, [1, [1, 1]]]" + closing + ";"));
        Desk desk = new Desk();
        Desk.same("257 values", 12, desk.run(calls + "[1, [1, [1, [1, 1]]]]" + closing + ";"));
        Desk.same("the numeral is too much", at + 16, desk.bench.place());
        Desk.same("nothing in brackets is too much", 12, desk.run(calls + "[1, [1, [1, [1, []]]]]" + closing + ";"));
        Desk.same("its place", at + 16, desk.bench.place());
    }

    private static void waitingNumbers() {
        String big = "x = ones(64, 64); y = ";
        StringBuilder sum = new StringBuilder(big);
        for (int i = 0; i < 15; i++) {
            sum.append("x + (");
        }
        String closing = ")))))))))))))));";
        Desk.same("65536 numbers wait", 0, new Desk().run(sum + "x" + closing));
        Desk desk = new Desk();
        Desk.same("65537 numbers", 12, desk.run(sum + "x + 1" + closing));
        Desk.same("the numeral's place", sum.length() + 4, desk.bench.place());
        Desk.same("a matrix more", 12, desk.run(sum + "x + x" + closing));
        Desk.same("the name's place", sum.length() + 4, desk.bench.place());
        Desk.same("a call that gives too much", 12, desk.run(sum + "x(1) + ones(64, 64)" + closing));
        Desk.same("the call's place", sum.length() + 7, desk.bench.place());
        Desk.same("what a name with brackets takes does not wait", 0, desk.run(sum + "x(1:64, 1:64)" + closing));
    }

    private static void namedValues() {
        StringBuilder all = new StringBuilder("x = ones(64, 64);");
        for (int i = 1; i < 16; i++) {
            all.append(" x").append(i).append(" = x;");
        }
        Desk desk = new Desk();
        Desk.same("65536 numbers", 0, desk.run(all.toString()));
        Desk.same("the same again", 0, desk.run(all.toString()));
        Desk.same("one more", 12, desk.run("  y = 1;"));
        Desk.same("at the name", 2, desk.bench.place());
        Desk.same("a text without characters fits", 0, desk.run("y = \"\"; x15 = 5; z = 1:4095; x14 = 1;"));
        Desk.same("a part that grows", 12, desk.run("x14 = x; x14 = 1; x14(1) = 2; x13 = x; x14(4097 - 1) = 3; w = 1;"));
        Desk.same("at w", 58, desk.bench.place());
        Desk.same("clear", 18, desk.bench.clear());
        Desk.same("and there is room again", 0, desk.run(all.toString()));
        Desk.same("a parameter", 12, desk.run("function f(a) end f(1);"));
        Desk.same("at the call", 18, desk.bench.place());
        Desk.same("the name of a for", 12, desk.run("for (i = 5) end"));
        Desk.same("at the name", 5, desk.bench.place());
        Desk.same("the second of two", 12, desk.run("x1 = 1; x2 = 1; x2 = ones(1, 4095); [p, q] = size(1); [x3, r] = size(1); [s, x4] = max(3); x5 = x; x3 = x; x4 = x; x1 = x;"));
    }

    private static void manyNames() {
        Desk desk = new Desk();
        for (int i = 0; i < 8; i++) {
            StringBuilder all = new StringBuilder();
            for (int k = 0; k < 512; k++) {
                all.append("a").append(i * 512 + k).append("=\"\";");
            }
            Desk.same("512 names more", 0, desk.run(all.toString()));
        }
        Desk.same("the 4097th name", 12, desk.run("b = \"\";"));
        Desk.same("at the name", 0, desk.bench.place());
        Desk.same("a parameter", 12, desk.run("function f(a) end f(\"\");"));
        Desk.same("one that has a value", 0, desk.run("a17 = 5;"));
        Desk.same("clear", 4096, desk.bench.clear());
        Desk.same("b again", 0, desk.run("b = \"\";"));
    }

    private static void fuel() {
        Desk.faults("x = 3;", 2, 0, -1, 0);
        Desk.faults("x = 3;", 1, 14, 4, 0);
        Desk.faults("x = ones(64, 64);", 131, 14, 4, 0);
        Desk.faults("x = ones(64, 64);", 132, 0, -1, 0);
        Desk.faults("x = ones(64, 64); y = x;", 134, 0, -1, 0);
        Desk.faults("x = 1; y = x';", 10, 0, -1, 5);
        Desk.faults("x = [];", 10, 0, -1, 9);
        Desk.faults("x = [1, 2; 3, 4];", 20, 0, -1, 9);
        Desk.faults("x = [[], []; []];", 20, 0, -1, 14);
        Desk.faults("x = 1:64;", 20, 0, -1, 14);
        Desk.faults("x = 1 && 0 || 1;", 20, 0, -1, 14);
        Desk.faults("x = 0 && (1 / 0); y = 1 || nosuch;", 20, 0, -1, 14);
        Desk.faults("while (0) end", 10, 0, -1, 7);
        Desk.faults("if (0) elseif (0) else x = 1; end", 10, 0, -1, 5);
        Desk.faults("for (i = 1:3) end", 10, 0, -1, 3);
        Desk.faults("for (i = 1:3) end", 6, 14, 0, 0);
        Desk.faults("while (1) end", 5, 14, 0, 0);
        Desk.faults("print 1, \"0123456789012345678901234567890\", \"1\";", 100, 0, -1, 100 - 4 - 8 - 1);
        Desk.faults("print [1, 2];", 21, 14, 0, 0);
        Desk.faults("print [];", 2, 0, -1, 1);
        Desk.faults("x = ones(8, 8); y = x * x; z = x ^ 3; w = x .^ 2; v = x ^ 0;", 200, 0, -1,
            200 - 6 - (4 + 16) - (4 + 48) - (4 + 64) - 4);
        Desk.faults("x = ones(8, 8) + eye(8); y = x \\ x; z = x / x; d = det(x);", 400, 0, -1, 400 - 13 - 36 - 36 - 19);
        Desk.faults("x = ones(8, 8) + eye(8); y = inv(x); [q, r] = qr(x); c = chol(x); [l, u] = lu(x);", 400, 0, -1,
            400 - 13 - 35 - 19 - 19 - 19);
        Desk.faults("x = ones(8, 8) + eye(8); [z, p] = proved(x, x(:, 1)); n = norm(x); s = sort(x);", 400, 0, -1,
            400 - 13 - (5 + 36) - 3 - (3 + 64));
        Desk.faults("x = eye(8); [v, w] = eig(x);", 400, 0, -1, 400 - 5 - 3);
        Desk.faults("x = [2, 1, 0, 0; 1, 2, 0, 0; 0, 0, 1, 0; 0, 0, 0, 1]; [v, w] = eig(x);", 100, 0, -1, 100 - 37 - 5);
        Desk.faults("x = text(1); y = rows(x); z = fault();", 100, 0, -1, 100 - 10 - 3 - 2);
        Desk.faults("x = ones(8, 8); x(:, 1) = 5; x(:) = 1; y = x(:); z = x(1, 1);", 200, 0, -1, 200 - 6 - 4 - 5 - 4 - 4);
    }

    public static void main(String[] args) {
        throwsAsTold();
        emptyPrograms();
        theTank();
        statements();
        tries();
        functions();
        parts();
        writtenParts();
        waiting();
        waitingNumbers();
        namedValues();
        manyNames();
        fuel();
        Desk.finish();
    }
}
