/** The edges of VALUES, sentence by sentence: sizes, TRUE, what names may have in all frames, what may wait. */
public final class ValueBoundsTest {
    private static final int SHAPE = 4;
    private static final int MEMORY = 12;
    private static final int DEPTH = 13;

    private static void sized(String expression, int rows, int columns) {
        Desk.prints("x = " + expression + "; print rows(x), cols(x);", rows + " " + columns + "\n");
    }

    /** "0 .. 4096 rows and 0 .. 4096 columns with at most 4096 numbers": what fits exactly. */
    private static void largest() {
        sized("zeros(4096, 0)", 4096, 0);
        sized("zeros(0, 4096)", 0, 4096);
        sized("zeros(4096, 0)'", 0, 4096);
        sized("ones(4096, 1)", 4096, 1);
        sized("ones(1, 4096)", 1, 4096);
        sized("ones(64, 64)", 64, 64);
        sized("ones(2, 2048)", 2, 2048);
        sized("eye(64)", 64, 64);
        sized("1:4096", 1, 4096);
        sized("0:0.5:2047.5", 1, 4096);
        sized("diag(1:64)", 64, 64);
        sized("repeat(zeros(2048, 0), 2, 9)", 4096, 0);
        sized("repeat(1, 64, 64)", 64, 64);
        sized("kron(zeros(64, 0), zeros(64, 3))", 4096, 0);
        sized("kron(ones(8, 8), ones(8, 8))", 64, 64);
        sized("reshape([], 4096, 0)", 4096, 0);
        sized("reshape(ones(64, 64), 4096, 1)", 4096, 1);
        sized("ones(64, 1) * ones(1, 64)", 64, 64);
        sized("zeros(4096, 1) * zeros(1, 0)", 4096, 0);
        sized("[ones(1, 4095), 1]", 1, 4096);
        sized("[ones(4095, 1); 1]", 4096, 1);
        sized("[\"" + Desk.times("t", 4095) + "\", \"u\"]", 1, 4096);
        sized("find(ones(64, 64))", 4096, 1);
    }

    /** "What would be larger is a fault SHAPE of what would make it." */
    private static void tooLarge() {
        Desk.faultAt("x = @zeros(4096, 2);", SHAPE);
        Desk.faultAt("x = @ones(2, 2049);", SHAPE);
        Desk.faultAt("x = @ones(65, 64);", SHAPE);
        Desk.faultAt("x = @eye(65);", SHAPE);
        Desk.faultAt("x = 1@:4097;", SHAPE);
        Desk.faultAt("x = 0@:0.5:2048;", SHAPE);
        Desk.faultAt("x = @diag(1:65);", SHAPE);
        Desk.faultAt("x = @repeat(zeros(2049, 0), 2, 9);", SHAPE);
        Desk.faultAt("x = @repeat(zeros(0, 2), 9, 2049);", SHAPE);
        Desk.faultAt("x = @repeat(1, 64, 65);", SHAPE);
        Desk.faultAt("x = @kron(zeros(64, 0), zeros(65, 3));", SHAPE);
        Desk.faultAt("x = @kron(zeros(0, 4096), zeros(3, 2));", SHAPE);
        Desk.faultAt("x = @kron(ones(8, 8), ones(8, 9));", SHAPE);
        Desk.faultAt("x = ones(64, 1) @* ones(1, 65);", SHAPE);
        Desk.faultAt("x = zeros(4096, 0) @* zeros(0, 2);", SHAPE);
        Desk.faultAt("x = @[ones(1, 4096), 1];", SHAPE);
        Desk.faultAt("x = @[ones(4096, 1); 1];", SHAPE);
        Desk.faultAt("x = @[ones(64, 64), ones(64, 1)];", SHAPE);
        Desk.faultAt("x = @[\"" + Desk.times("t", 4095) + "\", \"uv\"];", SHAPE);
        Desk.faultAt("x = ones(65, 1); y = x@(ones(1, 64), ones(1, 65));", SHAPE);
        Desk.faultAt("x = 1:63; y = x@(ones(64, 1), [1, x, 1]);", SHAPE);
        Desk.prints("x = ones(65, 1); y = x(ones(1, 64), ones(1, 64)); print size(y);", "64\n");
    }

    /** "Numbers lie row by row: number k of it, from 1, is so." */
    private static void numbersRowByRow() {
        Desk.prints("x = [1, 2, 3; 4, 5, 6]; print x(1), x(3), x(4), x(6), x(:)', reshape(x, 3, 2);",
            "1 3 4 6 [1, 2, 3, 4, 5, 6] [1, 2; 3, 4; 5, 6]\n");
        Desk.faultAt("x = [1, 2, 3; 4, 5, 6]; y = x@(0);", 5);
        Desk.faultAt("x = [1, 2, 3; 4, 5, 6]; y = x@(7);", 5);
    }

    /** "A value is TRUE, if it is a matrix with a number at least, and all are not 0." */
    private static void truth() {
        for (String yes : new String[] { "1", "-1", "5e-324", "[1, 2; 3, 4]", "ones(64, 64)", "[1]" }) {
            Desk.prints("if (" + yes + ") print 1; else print 0; end print " + yes + " && 1, 0 || " + yes + ";", "1\n1 1\n");
        }
        for (String no : new String[] { "0", "-0", "[]", "zeros(0, 3)", "zeros(3, 0)", "[1, 0]", "[0; 1]", "ones(2, 2) - eye(2)", "\"\"",
            "\"a\"", "\"0\"" }) {
            Desk.prints("if (" + no + ") print 1; else print 0; end print " + no + " && 1, 0 || " + no + ";", "0\n0 0\n");
            Desk.prints("while (" + no + ") print 1; break; end print 2;", "2\n");
        }
    }

    /** "one for each call of a text's function that is open, at most 60 (a fault DEPTH of the call that would be the 61st)". */
    private static void openCalls() {
        String f = "function r = f(n) if (n <= 1) r = 1; else r = 1 + f(n - 1); end end ";
        Desk.prints(f + "print f(59), f(60), f(1);", "59 60 1\n");
        Desk.faultAt("function r = f(n) if (n <= 1) r = 1; else r = 1 + @f(n - 1); end end print f(61);", DEPTH);
        Desk.prints(f + "try x = f(61); catch print fault(), f(60); end print f(60);", "13 60\n60\n");
        Desk.faultAt("function f() g(); end function g() @f(); end f();", DEPTH);
        Desk.faultAt("function f() try f(); catch @error(\"no\"); end end f();", 16);
        // Bench functions and parts open no frame.
        Desk.prints("function r = f(n) if (n <= 1) x = 1:3; r = abs(-x(end)); else r = f(n - 1); end end print f(60);", "3\n");
        Desk.prints("function f() end for (i = 1:200) f(); end print i;", "200\n");
    }

    /** 16 matrices of 4096 numbers each, x0 to x15. */
    private static String full() {
        StringBuilder all = new StringBuilder("x0 = ones(64, 64); ");
        for (int i = 1; i < 16; i++) {
            all.append('x').append(i).append(" = x0; ");
        }
        return all.toString();
    }

    /** "The numbers and characters of all values that names have in all frames are at most 65536 together". */
    private static void numbersOfAllNames() {
        Desk.prints(full() + "print 1;", "1\n");
        Desk.faultAt(full() + "@y = 1;", MEMORY);
        Desk.faultAt(full() + "x15 = 1; @y = ones(64, 64);", MEMORY);
        Desk.prints(full() + "x15 = 1; y = 1:4095; print 1;", "1\n");
        Desk.faultAt(full() + "x15 = 1; y = 1:4095; @z = 1;", MEMORY);
        Desk.faultAt(full() + "@y = \"a\";", MEMORY);
        Desk.prints(full() + "y = \"\"; z = []; w = zeros(3, 0); print 1;", "1\n");
        Desk.prints(full() + "x15 = \"abc\"; y = 1:4093; print 1;", "1\n");
        Desk.faultAt(full() + "x15 = \"abc\"; @y = 1:4094;", MEMORY);
    }

    /** "a name's old value not counted when it gets a new one". */
    private static void oldValuesAreNotCounted() {
        Desk.prints(full() + "x15 = x0; x15 = x0 + 1; print x15(1);", "2\n");
        Desk.prints(full() + "x14 = 1; x15 = 1:4096; x14 = 1:4096; print count(x14);", "4096\n");
        Desk.faultAt(full() + "x14 = 1:4095; y = 5; @x14 = 1:4096;", MEMORY);
        Desk.prints(full() + "x14 = 1:4095; y = 5; x14 = 4095:-1:1; print x14(1);", "4095\n");
        Desk.prints(full() + "x3(5) = 7; x3(64, 64) = 8; x3(:) = 9; print x3(5);", "9\n");
        Desk.prints(full() + "x15 = 1:4094; x15(4096) = 1; print count(x15);", "4096\n");
        Desk.faultAt(full() + "x15 = 1:4094; y = 1; @x15(4096) = 1;", MEMORY);
        Desk.prints(full() + "x15 = 1:4094; y = 1; x15(4095) = 1; print count(x15);", "4095\n");
    }

    /** "a fault MEMORY at the NAME that would get the value (of a parameter: the call's NAME)". */
    private static void placesOfMemory() {
        Desk.faultAt(full() + "for (@i = 1) end", MEMORY);
        Desk.faultAt(full() + "x15 = 1:4094; [a, b, @c] = lu(1);", MEMORY);
        Desk.faultAt(full() + "x15 = 1:4096; [~, ~, @c] = lu(1);", MEMORY);
        Desk.prints(full() + "x15 = 1:4095; [~, b, ~] = lu(1); print b;", "1\n");
        Desk.faultAt(full() + "x15 = 1:4095; [a, @b] = size(1);", MEMORY);
        Desk.prints(full() + "x15 = 1:4095; try [a, b] = size(1); catch print fault(), a; end", "12 1\n");
        Desk.faultAt("function f(p) end " + full() + "@f(1);", MEMORY);
        Desk.prints("function f(p) end " + full() + "f(\"\"); f([]); f(); print 1;", "1\n");
        Desk.faultAt("function f(p) @q = 1; end " + full() + "f();", MEMORY);
        Desk.faultAt(full() + "@y(1, 1) = 1;", MEMORY);
        Desk.faultAt(full() + "@y(:) = 1;", MEMORY);
        Desk.prints(full() + "y([]) = 1; y(:, 5) = []; print rows(y), cols(y);", "0 5\n");
    }

    /** "in all frames": a call's frame gives its room back when it is over, by a fault, too. */
    private static void framesGiveBack() {
        String f = "function r = f(n) a = ones(64, 64); if (n > 1) r = f(n - 1); else r = 1; end end ";
        Desk.prints(f + "print f(15); print f(15);", "1\n1\n");
        Desk.faultAt("function r = f(n) @a = ones(64, 64); if (n > 1) r = f(n - 1); else r = 1; end end print f(16);", MEMORY);
        Desk.prints(f + "try x = f(16); catch print fault(); end print f(15);", "12\n1\n");
        Desk.prints(f + "x = ones(64, 64); print f(14); try print f(15); catch print fault(); end", "1\n12\n");
    }

    /** So many locals without numbers, of names with two characters. */
    private static String locals(int n) {
        StringBuilder all = new StringBuilder();
        for (int i = 0; i < n; i++) {
            all.append((char) ('a' + i / 26)).append((char) ('A' + i % 26)).append("=[];");
        }
        return all.toString();
    }

    /** "at most 4096 names have one": 60 frames of 68 names are 4080. */
    private static void namesThatHaveOne() {
        String g = "function r = g(n) k = n; " + locals(65) + " if (n > 1) r = g(n - 1); else @r = 1; end end ";
        String unmarked = g.replace("@", "");
        Desk.same("60 frames of 67 names, one more, 75 in the workspace", "1\n", new Desk().printed(unmarked + locals(75)
            + "print g(60);"));
        Desk.faultAt(g + locals(76) + "print g(60);", MEMORY);
        Desk.prints(unmarked + locals(76) + "try print g(60); catch print fault(); end print g(59);", "12\n1\n");
        // The parameter of the 60th call would be the 4097th name: 143 names and 59 frames of 67.
        Desk.faultAt(unmarked.replace("r = g(n - 1)", "r = @g(n - 1)") + locals(143) + "x = g(60);", MEMORY);
        Desk.prints(unmarked + locals(142) + "try x = g(60); catch print fault(); end print g(58);", "12\n1\n");
    }

    /** 36 open calls with seven numbers that wait each: 252 values. */
    private static String waiting252() {
        return "function r = h() r = 1; end function r = g(a, b, c, d, e, f, g, h) r = 1; end y = [1, 2; 3, 4]; x = "
            + Desk.times("g(1,1,1,1,1,1,1,", 36);
    }

    private static void waits(String last) {
        Desk.same("256 values wait: " + last, 0, new Desk().run(waiting252() + last + Desk.times(")", 36) + ";"));
    }

    private static void isTooMuch(String marked) {
        Desk.faultAt(waiting252() + marked + Desk.times(")", 36) + ";", MEMORY);
    }

    /** "In all open calls together at most 256 wait at a time (otherwise a fault MEMORY of what gave the one that is too much)". */
    private static void valuesThatWait() {
        waits("1 + (1 + (1 + 1))");
        isTooMuch("1 + (1 + (1 + (1 + @1)))");
        isTooMuch("1 + (1 + (1 + (1 + @y)))");
        isTooMuch("1 + (1 + (1 + (1 + @\"\")))");
        isTooMuch("1 + (1 + (1 + (1 + @[])))");
        isTooMuch("1 + (1 + (1 + (1 + @fault())))");
        isTooMuch("1 + (1 + (1 + (1 + y(@1))))");
        isTooMuch("1 + (1 + (1 + (1 + y@(:))))");
        isTooMuch("y(1, 1 + (1 + (1 + @end)))");
        isTooMuch("1:2:(1 + (1 + @1))");
        waits("y(1, 1 + 0 * end)");
        waits("1 + (1 + (1 + -1))");
        waits("1 + (1 + (1 + h()))");
        waits("1 + (1 + (1 + y(1)))");
        waits("1 + (1 + (1 + y(:)))");
        waits("1:2:(1 + 1)");
        Desk.same("what waits in an open call counts, too", MEMORY, new Desk().run(waiting252() + "1 + (1 + (1 + (1 + h())))"
            + Desk.times(")", 36) + ";"));
        // The left side of && and || does not wait for the right one.
        waits("1 && (1 && (1 && (1 && (0 || (0 || 1)))))");
    }

    /** "The value of a NAME with brackets does not wait": only its arguments do. */
    private static void partsThatWait() {
        waits("y(1, y(1, y(1, 1)))");
        isTooMuch("y(1, y(1, y(1, y(1, @1))))");
        waits("y(y(y(y(y(y(1))))))");
    }

    /** "the row so far, from its first value on, and the matrix of the rows that are over, wait, too, each as one value". */
    private static void bracketsThatWait() {
        waits("[1, 1, 1, 1, 1, 1, 1, 1]");
        waits("[1; 1; 1; 1; 1; 1; 1; 1]");
        waits("1 + [1, (1 + 1)]");
        isTooMuch("1 + [1, 1 + (1 + @1)]");
        waits("1 + [1, 1; 1, 1]");
        isTooMuch("1 + [1, 1; 1, 1 + @1]");
        waits("[1, 1; 1, 1 + 1]");
        isTooMuch("[1, 1; 1, 1 + (1 + @1)]");
        waits("[1, 1; 1 + (1 + 1), 1]");
        isTooMuch("[1, 1; 1 + (1 + (1 + @1)), 1]");
        waits("[[1, [1, [1]]]]");
        isTooMuch("1 + [1, [1, [1, @[]]]]");
        isTooMuch("[1, [1, [1, [1, @1]]]]");
    }

    /** "the matrix of a for until that is over". */
    private static void matricesOfFor() {
        String call = "g(1,1,1,1,1,1,1,";
        String f = "function r = g(a, b, c, d, e, f, g, h) r = 1; end ";
        String fors = Desk.times("for (i = 1) ", 20);
        String ends = Desk.times("end ", 20);
        Desk.same("20 of them and 236 values", 0,
            new Desk().run(f + fors + "x = " + Desk.times(call, 33) + "1 + (1 + (1 + (1 + 1)))" + Desk.times(")", 33) + "; " + ends));
        Desk.faultAt(f + fors + "x = " + Desk.times(call, 33) + "1 + (1 + (1 + (1 + (1 + @1))))" + Desk.times(")", 33) + "; " + ends,
            MEMORY);
        Desk.faultAt(f + fors + "x = " + Desk.times(call, 33) + "1 + (1 + (1 + (1 + (1 + @[]))))" + Desk.times(")", 33) + "; " + ends,
            MEMORY);
        Desk.same("none waits behind their ends", 0,
            new Desk().run(f + fors + ends + "x = " + Desk.times(call, 36) + "1 + (1 + (1 + 1))" + Desk.times(")", 36) + ";"));
        Desk.same("nor behind break", 0, new Desk().run(f + Desk.times("for (i = 1:3) break; end ", 30) + "x = "
            + Desk.times(call, 36) + "1 + (1 + (1 + 1))" + Desk.times(")", 36) + ";"));
        Desk.same("nor behind a fault that is caught", 0, new Desk().run(f
            + Desk.times("try for (i = 1:3) x = 1 + nosuch; end catch end ", 30)
            + "x = " + Desk.times(call, 36) + "1 + (1 + (1 + 1))" + Desk.times(")", 36) + ";"));
        Desk.same("nor behind return", 0, new Desk().run(f + "function h() for (i = 1:3) return; end end " + Desk.times("h(); ", 30)
            + "x = "
            + Desk.times(call, 36) + "1 + (1 + (1 + 1))" + Desk.times(")", 36) + ";"));
    }

    /** "results of a call wait one behind the other". */
    private static void resultsThatWait() {
        String f = "function [p, q, r] = three() p = ones(64, 64); q = p; r = p; end function r = eat(n) for (v = ones(64, 64)) "
            + "if (n > 1) r = eat(n - 1); else [a, b, c] = three(); r = 1; end return; end end ";
        Desk.same("13 matrices of for and 3 results", 0, new Desk().run(f + "x = eat(13);"));
        Desk desk = new Desk();
        Desk.same("14 and 3", MEMORY, desk.run(f + "x = eat(14);"));
        Desk.same("at the call", f.indexOf("three(); r = 1"), desk.bench.place());
        String l = "function r = eat(n) for (v = ones(64, 64)) if (n > 1) r = eat(n - 1); else [a, b, c] = @lu(eye(64)); r = 1; end return; end end ";
        Desk.prints(l.replace("@", "") + "print eat(13);", "1\n");
        Desk.faultAt(l + "x = eat(14);", MEMORY);
    }

    /** "with at most 65536 numbers and characters". */
    private static void numbersThatWait() {
        String sum = "x = ones(64, 64); t = \"" + Desk.times("t", 4096) + "\"; y = 1; z = " + Desk.times("x + (", 15);
        String closing = Desk.times(")", 15) + ";";
        Desk.same("65536 numbers wait", 0, new Desk().run(sum + "x" + closing));
        Desk.faultAt(sum + "x + @1" + closing, MEMORY);
        Desk.faultAt(sum + "x + @y" + closing, MEMORY);
        Desk.faultAt(sum + "x + @x" + closing, MEMORY);
        Desk.faultAt(sum + "x + @\"a\"" + closing, MEMORY);
        Desk.faultAt(sum + "t == @\"a\"" + closing, MEMORY);
        Desk.faultAt(sum + "x @+ []" + closing, SHAPE);
        Desk.faultAt(sum + "x @+ \"\"" + closing, 3);
        Desk.same("a part's indexes wait, its name's value does not", 0, new Desk().run(sum + "x(1:64, 1:64)" + closing));
        Desk.faultAt(sum + "x(1:64, 1:64) + @1" + closing, MEMORY);
    }

    public static void main(String[] args) {
        largest();
        tooLarge();
        numbersRowByRow();
        truth();
        openCalls();
        numbersOfAllNames();
        oldValuesAreNotCounted();
        placesOfMemory();
        framesGiveBack();
        namesThatHaveOne();
        valuesThatWait();
        partsThatWait();
        bracketsThatWait();
        matricesOfFor();
        resultsThatWait();
        numbersThatWait();
        Desk.finish();
    }
}
