/** The edges of FAULTS and STATEMENTS, sentence by sentence: which fault comes first and where, try, loops, calls. */
public final class StatementBoundsTest {
    private static final int NAME = 2;
    private static final int KIND = 3;
    private static final int SHAPE = 4;
    private static final int INDEX = 5;
    private static final int RANGE = 6;
    private static final int ZERO = 7;
    private static final int DOMAIN = 8;
    private static final int SINGULAR = 9;
    private static final int POSITIVE = 10;
    private static final int COUNT = 11;
    private static final int MEMORY = 12;
    private static final int DEPTH = 13;
    private static final int CALLED = 16;
    private static final int STILL = 17;

    /** "FAULTS of a run, each with a PLACE": one of each number (14 and 15 stand in FuelTest and CallBoundsTest). */
    private static void eachFault() {
        Desk.faultAt("x = @y;", NAME);
        Desk.faultAt("x = 1 @+ \"a\";", KIND);
        Desk.faultAt("x = [1, 2] @+ [1; 2];", SHAPE);
        Desk.faultAt("x = 1; y = x@(2);", INDEX);
        Desk.faultAt("x = 1e308 @+ 1e308;", RANGE);
        Desk.faultAt("x = 1 @/ 0;", ZERO);
        Desk.faultAt("x = @sqrt(-1);", DOMAIN);
        Desk.faultAt("x = @inv(0);", SINGULAR);
        Desk.faultAt("x = @chol(0);", POSITIVE);
        Desk.faultAt("x = @size();", COUNT);
        Desk.faultAt("function f() @f(); end f();", DEPTH);
        Desk.faultAt("@error(\"a\");", CALLED);
        Desk.prints("try error(\"\"); catch print fault(); end try x = 1 / 0; catch print fault(); end print fault();", "16\n7\n7\n");
    }

    /** "Of several faults that one thing has, KIND comes first". */
    private static void kindFirst() {
        Desk.faultAt("t = \"ab\"; x = t@(1, 2, 3);", KIND);
        Desk.faultAt("t = \"ab\"; x = t@();", KIND);
        Desk.faultAt("t = \"ab\"; x = t@(1 / 0);", KIND);
        Desk.faultAt("x = [1, 2, 3] @+ \"ab\";", KIND);
        Desk.faultAt("x = \"ab\" @* [1, 2, 3];", KIND);
        Desk.faultAt("x = \"ab\" @^ 0.5;", KIND);
        Desk.faultAt("x = 0.5 @.^ \"ab\";", KIND);
        Desk.faultAt("x = @zeros([1, 2], \"a\");", KIND);
        Desk.faultAt("x = @zeros(0.5, \"a\");", KIND);
        Desk.faultAt("x = @reshape(\"a\", [1, 2], 0.5);", KIND);
        Desk.faultAt("x = @sum(\"a\", 3);", KIND);
        Desk.faultAt("x = @dot(\"a\", [1, 2]);", KIND);
        Desk.faultAt("x = @proved([1, 2], \"a\");", KIND);
        Desk.faultAt("x = [1, 2]@:3:\"a\";", KIND);
        Desk.faultAt("x = @[[1; 2], \"a\"];", KIND);
        Desk.faultAt("x = 1:3; y = x@(\"a\", 9);", KIND);
        Desk.faultAt("x = 1:3; y = x@(9, \"a\");", KIND);
        Desk.faultAt("x = 1:3; x@(0, \"a\") = \"b\";", KIND);
        Desk.faultAt("x = 1:3; x(0, 1:5) @= \"b\";", KIND);
    }

    /** "then COUNT": before the arguments are worked out; "then SHAPE, INDEX, DOMAIN, DEPTH". */
    private static void countAndShape() {
        Desk.faultAt("x = @abs(1 / 0, nosuch);", COUNT);
        Desk.faultAt("x = 1:3; y = x@(1 / 0, 2, 3);", COUNT);
        Desk.faultAt("x = 1:3; y = x@();", COUNT);
        Desk.faultAt("function f() f(); end x = @f();", COUNT);
        Desk.faultAt("function f() @f(1); end f();", COUNT);
        Desk.faultAt("x = @zeros([1, 2], 0.5);", SHAPE);
        Desk.faultAt("x = @reshape(1:4, 0.5, [1, 2]);", SHAPE);
        Desk.faultAt("x = [1, 2] @.^ [0.5, 1, 1];", SHAPE);
        Desk.faultAt("x = [1, 2; 3, 4] @^ [0.5, 0.5];", SHAPE);
        Desk.faultAt("x = [1, 2] @^ 0.5;", SHAPE);
        Desk.faultAt("x = @eig([1, 2; 3, 4; 5, 6]);", SHAPE);
        Desk.faultAt("x = @sum(1:3, [3, 4]);", SHAPE);
        Desk.faultAt("x = ones(65, 1); y = x@([x', 0], 0.5 * ones(64, 1));", SHAPE);
        Desk.faultAt("x = 1:3; x([0, 0.5]) @= 1:3;", SHAPE);
        Desk.faultAt("x = @mod([1, 2], [0, 0, 0]);", SHAPE);
        Desk.faultAt("x = [1, 2] @./ [0, 0, 0];", SHAPE);
    }

    /** "then what its numbers come to in their order". */
    private static void numbersInTheirOrder() {
        Desk.faultAt("x = [1e200, 1] @./ [1e-200, 0];", RANGE);
        Desk.faultAt("x = [1, 1e200] @./ [0, 1e-200];", ZERO);
        Desk.faultAt("x = [0, 1e300] @.^ [-1, 2];", ZERO);
        Desk.faultAt("x = [1e300, 0] @.^ [2, -1];", RANGE);
        Desk.faultAt("x = @mod([1e308, 1], [1e-10, 0]);", RANGE);
        Desk.faultAt("x = @mod([1, 1e308], [0, 1e-10]);", ZERO);
        Desk.faultAt("x = @inv([1, 1e308; -1, 1e308]);", RANGE);
        Desk.faultAt("x = @inv([0, 1e308; 0, 1e308]);", SINGULAR);
        Desk.faultAt("x = @chol([1, 0; 1e200, 1]);", RANGE);
        Desk.faultAt("x = @chol([-1, 0; 1e200, 1]);", POSITIVE);
    }

    /** "MEMORY last." */
    private static void memoryLast() {
        String full = "x0 = ones(64, 64); ";
        for (int i = 1; i < 16; i++) {
            full = full + "x" + i + " = x0; ";
        }
        Desk.faultAt(full + "y = 1 @/ 0;", ZERO);
        Desk.faultAt(full + "@y = 1 / 1;", MEMORY);
        Desk.faultAt(full + "y@(65, 64) = 1;", SHAPE);
        Desk.faultAt(full + "y(1) @= [];", SHAPE);
        Desk.faultAt(full + "y@(0) = 1;", INDEX);
        Desk.faultAt(full + "@y(2) = 1;", MEMORY);
        String sum = "x = ones(64, 64); y = " + Desk.times("x + (", 15);
        Desk.faultAt(sum + "x(1) + @ones(64, 64)" + Desk.times(")", 15) + ";", MEMORY);
        Desk.faultAt(sum + "x(1) + @kron([1, 2], ones(64, 32))" + Desk.times(")", 15) + ";", MEMORY);
        Desk.faultAt(sum + "x(1) + @kron([1e200, 2], 1e200 * ones(64, 32))" + Desk.times(")", 15) + ";", RANGE);
    }

    /** "The place is that of the operation's token, a call's NAME, a part's '(' , a '[', or a statement's first token". */
    private static void places() {
        Desk.faultAt("x = 1 + 2 @/ 0 - 3;", ZERO);
        Desk.faultAt("x = 1e308 @.* 10;", RANGE);
        Desk.faultAt("x = 2 ^ -1 @.^ 0.5;", DOMAIN);
        Desk.faultAt("x = 2 @^ -0.5;", DOMAIN);
        Desk.faultAt("x = 2 ^ @-\"a\";", KIND);
        Desk.faultAt("x = (\"a\")@';", KIND);
        Desk.faultAt("x = 1 + @~\"a\";", KIND);
        Desk.faultAt("x = 1 + (\"a\"@:2:3);", KIND);
        Desk.faultAt("x = 1 + sum( @sqrt(-1));", DOMAIN);
        Desk.faultAt("x = 1:3; y = x (x @(7));", INDEX);
        Desk.faultAt("x = 1:3; y = x  @(7);", INDEX);
        Desk.faultAt("x = 1 + @[1, [2; 3]];", SHAPE);
        Desk.faultAt("x = [1, @[2; [3, 4]]];", SHAPE);
        Desk.faultAt("  @for (i = \"a\") end", KIND);
        Desk.faultAt("[a, b] = @abs(1);", COUNT);
        Desk.faultAt("[a, b, c] = @lu([0]);", SINGULAR);
        Desk.faultAt("%c\n x = 1; @nosuch ;", NAME);
    }

    /** "A fault ends the run, but inside try: .. the statements behind its catch are run". */
    private static void tries() {
        Desk.prints("try x = 1; y = 1 / 0; x = 2; catch print x, fault(); end print 3;", "1 7\n3\n");
        Desk.prints("try try y = 1 / 0; catch y = sqrt(-1); end print 1; catch print fault(); end", "8\n");
        Desk.prints("try y = 1 / 0; catch end try catch print 1; end print fault();", "7\n");
        Desk.prints("function f() x = 1 / 0; print 1; end try f(); print 2; catch print fault(); end try f(); catch print 3; end",
            "7\n3\n");
        Desk.prints("function f() try x = 1 / 0; catch print 1; end end try f(); print 2; catch print 3; end", "1\n2\n");
        Desk.prints("function f() try return; catch end end try f(); x = 1 / 0; catch print 1; end", "1\n");
        Desk.faultAt("try x = 1; catch end x = 1 @/ 0;", ZERO);
        Desk.faultAt("try x = 1 / 0; catch x = 1 @/ 0; end", ZERO);
        Desk.faultAt("function f() try return; catch print 9; end end f(); x = 1 @/ 0;", ZERO);
        Desk.faultAt("for (i = 1:3) try break; catch print 9; end end x = 1 @/ 0;", ZERO);
        Desk.faultAt("for (i = 1:3) try try continue; catch print 9; end catch print 8; end end x = 1 @/ 0;", ZERO);
        Desk.faultAt("while (1) try if (1) break; end catch print 9; end end x = 1 @/ 0;", ZERO);
        Desk.prints("function f(n) x = 5; if (n == 0) y = nosuch; end f(n - 1); end x = 1; try f(9); catch print x, fault(); end", "1 2\n");
        Desk.prints("for (i = 1:3) try if (i == 2) error(\"a\"); end print i; catch print -i; end end", "1\n-2\n3\n");
        Desk.prints("function r = f() r = 1; try r = 2; return; catch r = 3; end r = 4; end print f();", "2\n");
    }

    /** A try ends where it ends: what leaves an inner one, or a loop inside one, leaves the outer one as it is. */
    private static void triesInTries() {
        Desk.prints("try try catch end x = 1 / 0; catch print 1; end", "1\n");
        Desk.prints("try try x = nosuch; catch end x = 1 / 0; catch print 1; end", "1\n");
        Desk.prints("try for (i = 1:3) break; end x = 1 / 0; catch print 1; end", "1\n");
        Desk.prints("try for (i = 1:3) continue; end x = 1 / 0; catch print 1; end", "1\n");
        Desk.prints("try while (1) try break; catch print 9; end end x = 1 / 0; catch print 1; end", "1\n");
        Desk.prints("try for (i = 1:3) try x = nosuch; catch print i; end end print 4; catch print 9; end", "1\n2\n3\n4\n");
        Desk.prints("for (i = 1:2) try for (j = 1:2) try x = nosuch; catch print i, j; end end catch print 9; end end",
            "1 1\n1 2\n2 1\n2 2\n");
        Desk.prints("function f() try return; catch print 9; end end try f(); x = 1 / 0; catch print 1; end", "1\n");
        Desk.prints(Desk.times("try ", 40) + "x = nosuch; " + Desk.times("catch print fault(); x = 1 / 0; end ", 39) + "catch print 5; end",
            "2\n" + Desk.times("7\n", 38) + "5\n");
        for (String first : new String[] { "try return; catch print 9; end", "try while (1) end catch print 9; end" }) {
            Desk desk = new Desk();
            desk.run(first, 50);
            Desk.same("a try of the run before is none of this one: " + first, 7, desk.run("x = 1 / 0;"));
            Desk.same("nothing is printed", "", desk.output());
        }
    }

    /** What an "or" alone works out waits no longer when its statement is over. */
    private static void nothingWaitsBehindStatements() {
        Desk.prints("x = 1:3; function r = f() r = 1; end for (i = 1:300) x; x(2); (x); 1; [1, 2]; \"a\"; x'; f(); f; abs(1); [a, b] = size(1); end print i;",
            "300\n");
        Desk.prints("x(2) = 1; for (i = 1:300) x(1) = i; x(:) = i; x = [x(1), 2]; end print x;", "[300, 2]\n");
        Desk.prints("for (i = 1:300) if (1 && 1) end if (0 || 0) elseif (1) else end k = 2; while (k) k = k - 1; end end print i;",
            "300\n");
        Desk.prints("for (i = 1:300) try x = [1, 2 + nosuch]; catch end end print i;", "300\n");
        Desk.prints("for (i = 1:300) try error(\"a\"); catch end try abs(\"a\"); catch end end print i;", "300\n");
    }

    /** "fault(): the latest fault that was caught in this run, 0 for none." */
    private static void latestFault() {
        Desk desk = new Desk();
        Desk.same("first run", "0\n7\n3\n",
            desk.printed("print fault(); try x = 1 / 0; catch end print fault(); try try x = \"a\" + 1; catch y = fault(); end catch end print fault();"));
        Desk.same("the next run", "0\n", desk.printed("print fault();"));
        Desk.same("a run that ends with a fault", "fault 7 at 6", desk.printed("x = 1 / 0;"));
        Desk.same("and behind it", "0\n", desk.printed("print fault();"));
        Desk.prints("try x = 1 / 0; catch try y = sqrt(-1); catch print fault(); end print fault(); end", "8\n8\n");
    }

    /** "a(i) = e and a(i, j) = e: i and j are worked out, then e, then a PART is written". */
    private static void orderOfWriting() {
        Desk.faultAt("a(1 @/ 0) = nosuch;", ZERO);
        Desk.faultAt("a(@nosuch, 1 / 0) = 1;", NAME);
        Desk.faultAt("a(1, 1 @/ 0) = nosuch;", ZERO);
        Desk.faultAt("a(0) = @nosuch;", NAME);
        Desk.faultAt("a = \"t\"; a@(1 / 0) = nosuch;", KIND);
        Desk.faultAt("a = \"t\"; a@(nosuch, 1) = nosuch;", KIND);
        Desk.faultAt("a = \"t\"; a@(:) = nosuch;", KIND);
        Desk.prints("a = \"\"; try a(1) = 1; catch print fault(), a; end", "3 \n");
        Desk.prints("a(end + 1) = 5; a(end + 1) = 6; b(end + 1, end + 2) = 7; print a, b;", "[5, 6] [0, 7]\n");
        Desk.prints("function f() a(1) = 9; print a; end a = [1, 2]; f(); print a;", "9\n[1, 2]\n");
        Desk.prints("abs(2) = 5; print abs;", "[0, 5]\n");
        Desk.prints("function r = f(x) r = x; end f(2) = 5; print f(2);", "5\n");
    }

    /** "what is written to no place gives it a value without numbers". */
    private static void writtenToNoPlace() {
        Desk.prints("a([]) = 5; print rows(a), cols(a);", "0 0\n");
        Desk.prints("a([]) = []; print rows(a), cols(a);", "0 0\n");
        Desk.prints("a([], []) = []; print rows(a), cols(a);", "0 0\n");
        Desk.prints("a(3, []) = 5; print rows(a), cols(a);", "3 0\n");
        Desk.prints("a([], 3) = 5; print rows(a), cols(a);", "0 3\n");
        Desk.prints("a(:) = []; print rows(a), cols(a);", "0 1\n");
        Desk.prints("a(:, :) = []; print rows(a), cols(a);", "0 0\n");
        Desk.prints("a(:, :) = zeros(0, 7); print rows(a), cols(a);", "0 7\n");
        Desk.prints("a(:, 2) = []; print rows(a), cols(a); b(2, :) = []; print rows(b), cols(b);", "0 2\n2 0\n");
    }

    /** "[a, b] = f(x): a call (also if f has a value) that is asked for so many results, which a and b get". */
    private static void severalResults() {
        Desk.prints("function [p, q] = f(x) p = x; q = x + 1; end f = [7, 8]; [a, b] = f(1); print a, b, f(1);", "1 2 7\n");
        Desk.prints("size = 5; [a, b] = size(ones(2, 3)); print a, b;", "2 3\n");
        Desk.prints("[a, a] = size(ones(2, 3)); print a;", "3\n");
        Desk.prints("[~, a] = size(ones(2, 3)); print a; [b, ~] = size(ones(2, 3)); print b; [~] = size(1); [~, ~] = size(1);", "3\n2\n");
        Desk.prints("a = 1; [a, b] = size(ones(a, 5)); print a, b;", "1 5\n");
        Desk.faultAt("[~] = @error(\"a\");", COUNT);
        Desk.faultAt("[~, ~] = @abs(1);", COUNT);
        Desk.faultAt("function f() end [~] = @f();", COUNT);
        Desk.faultAt("function [p, q] = f() q = 1; end [a, b] = @f();", NAME);
        Desk.faultAt("function [p, q] = f() p = 1; end [~, ~] = @f();", NAME);
        Desk.faultAt("function [p, q] = f() q = 1; end a = @f();", NAME);
        Desk.prints("function [p, q] = f() p = 1; end a = f(); [b] = f(); f(); print a, b;", "1 1\n");
        Desk.prints("function [p, q] = f() q = 1; end f(); f; (f()); print 1;", "1\n");
        Desk.faultAt("[a] = @nosuch();", NAME);
    }

    /** "An "or" alone that is a call (also in round brackets) is asked for no results, and worked out with all its .. faults". */
    private static void callsAlone() {
        Desk.prints("function f() print 1; end f(); f; (f()); ((f)); (((f())));", "1\n1\n1\n1\n1\n");
        Desk.faultAt("function f() print 1; end @f() + 1;", COUNT);
        Desk.faultAt("function f() print 1; end @f()';", COUNT);
        Desk.faultAt("function f() print 1; end -@f();", COUNT);
        Desk.faultAt("function f() print 1; end [@f()];", COUNT);
        Desk.faultAt("function f() print 1; end print @f();", COUNT);
        Desk.faultAt("function f() print 1; end x = @f;", COUNT);
        Desk.faultAt("function f() print 1; end if (@f()) end", COUNT);
        Desk.faultAt("@abs(\"a\");", KIND);
        Desk.faultAt("@inv(0);", SINGULAR);
        Desk.faultAt("@det(\"a\");", KIND);
        Desk.faultAt("(@error(\"a\"));", CALLED);
        Desk.faultAt("@eig([0, 1; 1, 1e300]);", RANGE);
        Desk.faultAt("x = 1; x@(2);", INDEX);
        Desk.faultAt("x = 1; (x@(2));", INDEX);
        Desk.faultAt("@x;", NAME);
        Desk.faultAt("1 @/ 0;", ZERO);
        Desk.prints("x = 1; x; x(1); (x); 1; \"a\"; [1, 2]; size(1); zeros(2, 2); fault; print 1;", "1\n");
    }

    /** "if, elseif, while: the first condition that is TRUE." */
    private static void conditions() {
        String f = "function r = f(x) print x; r = x > 1; end ";
        Desk.prints(f + "if (f(1)) print \"a\"; elseif (f(2)) print \"b\"; elseif (f(3)) print \"c\"; else print \"d\"; end", "1\n2\nb\n");
        Desk.prints(f + "if (f(0)) print \"a\"; elseif (f(1)) print \"b\"; else print \"d\"; end", "0\n1\nd\n");
        Desk.prints(f + "if (f(5)) else print \"d\"; end if (f(0)) end", "5\n0\n");
        Desk.prints("k = 3; while (k) k = k - 1; end print k;", "0\n");
        Desk.prints("while (0) print 1; end while (\"a\") print 2; end print 3;", "3\n");
    }

    /** "for: e is worked out (KIND at for, if it is a text), then the name gets one column after the other .. of what it was." */
    private static void columns() {
        Desk.prints("for (v = [1, 2; 3, 4]) print v; end print v;", "[1; 3]\n[2; 4]\n[2; 4]\n");
        Desk.prints("x = 1:3; for (x = x) print x; end print x;", "1\n2\n3\n3\n");
        Desk.prints("x = 1:2; for (i = x) x(end + 1) = 9; print i; end print x;", "1\n2\n[1, 2, 9, 9]\n");
        Desk.prints("for (i = zeros(0, 2)) print rows(i), cols(i); end print cols(i);", "0 1\n0 1\n1\n");
        Desk.prints("for (i = zeros(2, 0)) print 1; end try print i; catch print fault(); end", "2\n");
        Desk.prints("i = 5; for (i = []) print 1; end print i;", "5\n");
        Desk.prints("for (i = [1; 2; 3]) print i; end for (i = 7) print i; end", "[1; 2; 3]\n7\n");
        Desk.faultAt("@for (i = \"\") end", KIND);
        Desk.faultAt("@for (i = \"abc\") print i; end", KIND);
        Desk.faultAt("for (i = 1 @/ 0) end", ZERO);
        Desk.prints("for (i = 1:3) i = 10; print i; end", "10\n10\n10\n");
        Desk.prints("for (i = 1:2) for (i = 5:6) print i; end print -i; end", "5\n6\n-6\n5\n6\n-6\n");
    }

    /** "break, continue, return: as usual; return outside of functions ends the program". */
    private static void jumps() {
        Desk.prints("for (i = 1:9) if (i == 2) continue; elseif (i == 4) break; end print i; end print i;", "1\n3\n4\n");
        Desk.prints("for (i = 1:2) for (j = 1:3) if (j == 2) continue; end print i, j; end end", "1 1\n1 3\n2 1\n2 3\n");
        Desk.prints("for (i = 1:2) k = 0; while (1) k = k + 1; if (k > i) break; end print i, k; end end", "1 1\n2 1\n2 2\n");
        Desk.prints("print 1; return; print 2;", "1\n");
        Desk.prints("for (i = 1:3) try print i; return; catch print 9; end end print 2;", "1\n");
        Desk.prints("function f() for (i = 1:3) while (1) print i; return; end end end f(); print 2;", "1\n2\n");
        Desk.prints("function r = f(x) r = 1; if (x) return; end r = 2; end print f(1), f(0);", "1 2\n");
        Desk desk = new Desk();
        Desk.same("return ends without a fault", 0, desk.run("x = 1; return; x = 1 / 0;"));
        Desk.same("and place is none", -1, desk.bench.place());
        Desk.same("a name of a frame is none of the workspace", "fault 2 at 35",
            new Desk().printed("function f() y = 1; end f(); print y;"));
    }

    public static void main(String[] args) {
        eachFault();
        kindFirst();
        countAndShape();
        numbersInTheirOrder();
        memoryLast();
        places();
        tries();
        triesInTries();
        nothingWaitsBehindStatements();
        latestFault();
        orderOfWriting();
        writtenToNoPlace();
        severalResults();
        callsAlone();
        conditions();
        columns();
        jumps();
        Desk.finish();
    }
}
