/** Promises 4 and 5: compile and place, what a program is and where its faults are. */
public final class CompileTest {
    private static void fits(String text, int tokens) {
        Desk.same("tokens of " + text, tokens, new Desk().compile(text));
    }

    private static String times(String text, int n) {
        StringBuilder all = new StringBuilder();
        for (int i = 0; i < n; i++) {
            all.append(text);
        }
        return all.toString();
    }

    private static void tokens() {
        fits("", 0);
        fits(" \t\r\n % only a comment \" @ \u00ff", 0);
        fits("% one\nx = 1; % two\n", 4);
        fits("a_1B = 0;", 4);
        fits("x=1.5e-3;y=2e5;z=7e+0;", 12);
        fits("x = a ~= b == c <= d >= e < f > g || h && i;", 20);
        fits("x = a + b - c * d / e \\ f .* g ./ h ^ i .^ j';", 23);
        fits("x = 1./2; y = 2.*3; z = 2.^2;", 18);
        fits("x = \"%\"; y = \"\";", 8);
        fits("ifx = 1; end1 = 2; For = 3;", 12);
        fits("x = 1:2:3; x(1, :) = y(:, end);", 22);
        Desk.broken("x = 1.;", 5);
        Desk.broken("x = .5;", 4);
        Desk.broken("x = 1e;", 5);
        Desk.broken("x = 1e+;", 5);
        Desk.broken("x = 2y;", 5);
        Desk.broken("x = 1E5;", 5);
        Desk.broken("x = 1 & 2;", 6);
        Desk.broken("x = 1 | 2;", 6);
        Desk.broken("x = !1;", 4);
        Desk.broken("x = _a;", 4);
        Desk.broken("x = \"ab;", 4);
        Desk.broken("x = \"a\tb\";", 4);
        Desk.broken("x = \"a\nb\";", 4);
        Desk.broken("x = \"a\u007fb\";", 4);
        Desk.broken("\u00e4 = 1;", 0);
        fits("x = 1.7976931348623158e308;", 4);
        Desk.broken("x = 1.7976931348623159e308;", 4);
        Desk.broken("x = 1e309;", 4);
        fits("x = 0e99999999999;", 4);
        fits("x = 1e-99999999999;", 4);
        fits("x = 0." + times("0", 400) + "1e401;", 4);
        fits(times("a", 255) + " = 1;", 4);
        Desk.broken(times("a", 256) + " = 1;", 0);
        fits("x = \"" + times("t", 4096) + "\";", 4);
        Desk.broken("x = \"" + times("t", 4097) + "\";", 4);
        fits(times("x;", 8192), 16384);
        Desk.broken(times("x;", 8192) + " y", 16385);
        Desk.broken(times("x;", 8192) + " @", 16385);
    }

    private static void endsTooEarly() {
        Desk.broken("x", 1);
        Desk.broken("x = 1 ", 6);
        Desk.broken("if (1)", 6);
        Desk.broken("try x; catch", 12);
        Desk.broken("function f()", 12);
        Desk.broken("x = [1, 2; % more", 17);
        Desk.broken("[a, b]", 6);
        Desk.broken("print", 5);
    }

    private static void statements() {
        fits("if (a) elseif (b) elseif (c) else end", 14);
        Desk.broken("if (a) else elseif (b) end", 12);
        Desk.broken("if (a) else else end", 12);
        Desk.broken("if a end", 3);
        Desk.broken("if () end", 4);
        Desk.broken("while (a) else end", 10);
        Desk.broken("end", 0);
        Desk.broken("catch", 0);
        Desk.broken("try x; end", 7);
        Desk.broken("try x; catch y; catch z; end", 16);
        fits("for (i = 1:3) break; continue; end", 13);
        Desk.broken("for i = 1:3 end", 4);
        Desk.broken("for (i) end", 6);
        Desk.broken("for (i(1) = 2) end", 6);
        Desk.broken("break;", 0);
        Desk.broken("if (1) continue; end", 7);
        Desk.broken("while (1) end break;", 14);
        fits("while (1) if (2) try break; catch continue; end end end", 17);
        Desk.broken("while (1) function f() end end", 10);
        Desk.broken("break", 0);
        Desk.broken("while (1) break end", 16);
        fits("return;", 2);
        Desk.broken("return 1;", 7);
        Desk.broken("print;", 5);
        fits("print 1, 2, 3, 4, 5, 6, 7, 8;", 17);
        Desk.broken("show 1, 2, 3, 4, 5, 6, 7, 8, 9;", 27);
        Desk.broken(";", 0);
        Desk.broken("= 1;", 0);
        Desk.broken("x y;", 2);
        Desk.broken("x = ;", 4);
        Desk.broken("x = 1, y = 2;", 5);
    }

    private static void assignments() {
        fits("x(1) = 2; x(1, 2) = 3; x(:) = 4; x(:, end) = 5;", 32);
        Desk.broken("x() = 1;", 4);
        Desk.broken("x(1, 2, 3) = 1;", 11);
        Desk.broken("(x) = 1;", 4);
        Desk.broken("x' = 1;", 3);
        Desk.broken("-x = 1;", 3);
        Desk.broken("x + y = 1;", 6);
        Desk.broken("3 = 1;", 2);
        Desk.broken("x = y = 1;", 6);
        Desk.broken("(x = 1);", 3);
        Desk.broken("x(1)(2) = 1;", 4);
        Desk.broken("x.y = 1;", 1);
        Desk.broken("print = 1;", 6);
    }

    private static void expressions() {
        Desk.broken("x = 1:2:3:4;", 9);
        Desk.broken("x = (1;", 6);
        Desk.broken("x = [1 2];", 7);
        Desk.broken("x = [1, ];", 8);
        Desk.broken("x = [1; ];", 8);
        Desk.broken("x = [; 1];", 5);
        fits("x = [];", 5);
        Desk.broken("x = ();", 5);
        Desk.broken("x = 1 + ;", 8);
        fits("x = 2 ^ -1; y = 2 .^ -y';", 15);
        Desk.broken("x = 2 ^ +1;", 8);
        Desk.broken("x = 2 ^ ~1;", 8);
        Desk.broken("x = 2 ^ - -1;", 10);
        fits("x = - + ~ - 1;", 8);
        fits("x = 1 + -2 * -3;", 10);
        Desk.broken("x = 1 2;", 6);
        Desk.broken("x = \"a\"\"b\";", 7);
        Desk.broken("x = (1)(2);", 7);
        Desk.broken("x = y'(1);", 6);
        Desk.broken("x = 1(2);", 5);
        fits("x = y'';", 6);
        Desk.broken("x = ';", 4);
    }

    private static void argumentsOfNames() {
        fits("x = f(1, 2, 3, 4, 5, 6, 7, 8);", 21);
        Desk.broken("x = f(1, 2, 3, 4, 5, 6, 7, 8, 9);", 28);
        fits("x = f();", 6);
        Desk.broken("x = f(, 1);", 6);
        Desk.broken("x = f(1, );", 9);
        fits("x = y(:, :);", 9);
        Desk.broken("x = y(:, :, 1);", 10);
        Desk.broken("x = y(1, :, 1);", 10);
        Desk.broken("x = y(1, 2, :);", 12);
        Desk.broken("x = y(end, 2, 3);", 12);
        Desk.broken("x = y(1, 2, end);", 12);
        Desk.broken("x = y(1, [2, (end)], 3);", 19);
        fits("x = f(y(end), 2, 3);", 14);
        Desk.broken("x = y(:1);", 7);
        Desk.broken("x = y((:));", 7);
        Desk.broken("x = y(1 + :);", 10);
        Desk.broken("x = y([:]);", 7);
        Desk.broken("x = :;", 4);
        Desk.broken("x = end;", 4);
        Desk.broken("x = (end);", 5);
        Desk.broken("print end;", 6);
        Desk.broken("if (end) end", 4);
        Desk.broken("[a] = f(end);", 8);
        Desk.broken("[a] = f(:);", 8);
        fits("[a] = f(x(end));", 12);
        Desk.broken("[a] = f(1, 2, 3, 4, 5, 6, 7, 8, 9);", 30);
        fits("x(end + 1) = 2;", 9);
    }

    private static void targets() {
        fits("[a, ~, b] = f(1);", 13);
        fits("[a, b];", 6);
        fits("[a, b]';", 7);
        fits("[~a, b] + 1;", 9);
        fits("[a] == [b];", 8);
        Desk.broken("[a, b] = 1;", 9);
        Desk.broken("[a, b] = f;", 10);
        Desk.broken("[a, b] = f(1) + 1;", 14);
        Desk.broken("[a, b] = (f(1));", 9);
        Desk.broken("[a, b + 1] = f(1);", 11);
        Desk.broken("[a(1), b] = f(1);", 10);
        Desk.broken("[] = f(1);", 3);
        Desk.broken("[a; b] = f(1);", 7);
        Desk.broken("[~];", 3);
        Desk.broken("[~] + 1;", 4);
        Desk.broken("[a, ~];", 6);
        Desk.broken("[~, ~ a];", 6);
        Desk.broken("[~, b + 1];", 6);
        Desk.broken("[a, ~ b] = f(1);", 9);
        fits("[a, b, c, d, e, f, g, h] = f(1);", 23);
        Desk.broken("[a, b, c, d, e, f, g, h, i] = f(1);", 28);
        Desk.broken("[~, b, c, d, e, f, g, h, i] = f(1);", 23);
        fits("[a, b, c, d, e, f, g, h, i];", 20);
        Desk.broken("[if] = f(1);", 1);
    }

    private static void functions() {
        fits("function f() end", 5);
        fits("function f(a, b) x = a; return; end f(1, 2);", 21);
        fits("function r = f(a) r = a; end", 12);
        fits("function [r] = f(a) end", 10);
        fits("function [r, s] = f(r, s) end x = 1; function g() end", 23);
        Desk.broken("function [] = f() end", 10);
        Desk.broken("function [r, r] = f() end", 13);
        Desk.broken("function f(a, a) end", 14);
        Desk.broken("function [~] = f() end", 10);
        Desk.broken("function f end", 11);
        Desk.broken("function 1() end", 9);
        Desk.broken("function f(1) end", 11);
        Desk.broken("function f(a,) end", 13);
        Desk.broken("function r = (f) end", 13);
        Desk.broken("function r = f; end", 14);
        Desk.broken("function f() function g() end end", 13);
        Desk.broken("if (1) function f() end end", 7);
        Desk.broken("function f() break; end", 13);
        fits("function f(a, b, c, d, e, f, g, h) end", 20);
        Desk.broken("function f(a, b, c, d, e, f, g, h, i) end", 33);
        Desk.broken("function [a, b, c, d, e, f, g, h, i] = q() end", 32);
        Desk.broken("function f() end function f() end", 27);
        Desk.broken("function f() end function r = f() end", 30);
        Desk.broken("function f() end function [r] = f() end", 32);
        fits("function f() end function f = g() end", 12);
        Desk.broken("function f() end function f f() end", 28);
    }

    private static void depth() {
        fits("x = " + times("(", 60) + "1" + times(")", 60) + ";", 124);
        Desk.broken("x = " + times("(", 61) + "1" + times(")", 61) + ";", 64);
        fits("x = " + times("[", 60) + times("]", 60) + ";", 123);
        Desk.broken(times("[", 61) + times("]", 61) + ";", 60);
        fits("x = " + times("-", 60) + "1;", 64);
        Desk.broken("x = " + times("-", 61) + "1;", 64);
        Desk.broken("x = " + times("-", 60) + "(1);", 64);
        fits("x = " + times("-", 60) + "1' ^ (2) + (3) - -4;", 76);
        Desk.broken("x = " + times("-", 60) + "f(1);", 65);
        fits("x = " + times("f(", 60) + times(")", 60) + ";", 183);
        Desk.broken("x = " + times("f(", 61) + times(")", 61) + ";", 125);
        fits(times("try ", 60) + times("catch end ", 60), 180);
        Desk.broken(times("try ", 61) + times("catch end ", 61), 240);
        fits(times("if (1) ", 59) + times("end ", 59), 295);
        Desk.broken(times("if (1) ", 60) + times("end ", 60), 59 * 7 + 3);
        fits(times("while (1) ", 59) + times("end ", 59), 295);
        fits(times("for (i = 1) ", 59) + times("end ", 59), 413);
        fits(times("if (1) ", 58) + "if (x) elseif (y) else z = (1); end " + times("end ", 58), 306);
        fits("function f() " + times("try ", 58) + "x = (1);" + times("catch end ", 58) + "end", 185);
        Desk.broken("function f() " + times("try ", 59) + "x = (1);" + times("catch end ", 59) + "end", 253);
        fits(times("try ", 59) + "[~, a] = f(1);" + times("catch end ", 59), 188);
        Desk.broken(times("try ", 59) + "[~, a] = f((1));", 247);
        Desk.broken(times("try ", 60) + "[a] = f(1);", 240);
    }

    private static void theOldProgramStays() {
        Desk desk = new Desk();
        EquationBench x = desk.bench;
        Desk.same("compile", 4, desk.compile("x = 1;"));
        Desk.same("place", -1, x.place());
        Desk.same("compile of a fault", -1, desk.compile("y = ) 2;"));
        Desk.same("its place", 4, x.place());
        Desk.same("the tape is empty", 0, desk.compile(""));
    }

    private static void placeOfTheLatest() {
        Desk desk = new Desk();
        EquationBench x = desk.bench;
        desk.compile("x = 1 / 0;");
        Desk.same("place of no fault", -1, x.place());
        Desk.same("run", 7, x.run(100));
        Desk.same("place of the run's", 6, x.place());
        Desk.same("place again", 6, x.place());
        desk.compile("   )");
        Desk.same("place of the text's", 3, x.place());
        Desk.same("run of the old one", 7, x.run(100));
        Desk.same("place in the old one", 6, x.place());
        desk.type("x").bench.ask();
        Desk.same("place behind ask", 6, x.place());
        desk.compile("try y = 1 / 0; catch end");
        Desk.same("place behind compile", -1, x.place());
        Desk.same("run with a fault that is caught", 0, x.run(100));
        Desk.same("place of none", -1, x.place());
        desk.compile("(");
        Desk.same("a text that ends too early", 1, x.place());
        Desk.same("run", 0, x.run(100));
        Desk.same("place behind a good run", -1, x.place());
    }

    public static void main(String[] args) {
        tokens();
        endsTooEarly();
        statements();
        assignments();
        expressions();
        argumentsOfNames();
        targets();
        functions();
        depth();
        theOldProgramStays();
        placeOfTheLatest();
        Desk.finish();
    }
}
