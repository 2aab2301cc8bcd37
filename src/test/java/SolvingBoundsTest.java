/** The edges of SOLVING and of the bench functions that solve, sentence by sentence. */
public final class SolvingBoundsTest {
    private static final int SHAPE = 4;
    private static final int RANGE = 6;
    private static final int DOMAIN = 8;
    private static final int SINGULAR = 9;
    private static final int POSITIVE = 10;
    private static final int STILL = 17;

    private static void gives(String expressions, String due) {
        Desk.prints("print " + expressions + ";", due + "\n");
    }

    private static void sized(String expression, int rows, int columns) {
        Desk.prints("x = " + expression + "; print rows(x), cols(x);", rows + " " + columns + "\n");
    }

    private static void fails(String call, int fault) {
        Desk.faultAt("x = @" + call + ";", fault);
    }

    /** "(n by n; SHAPE otherwise)". */
    private static void squares() {
        for (String f : new String[] { "lu", "det", "inv", "chol", "eig" }) {
            fails(f + "([1, 2])", SHAPE);
            fails(f + "([1; 2])", SHAPE);
            fails(f + "(zeros(0, 1))", SHAPE);
            fails(f + "(zeros(4096, 0))", SHAPE);
            Desk.same(f + " of 0 by 0", 0, new Desk().run("x = " + f + "([]);"));
            Desk.same(f + " of 1 by 1", 0, new Desk().run("x = " + f + "(4);"));
            Desk.same(f + " of 64 by 64", 0, new Desk().run("x = " + f + "(eye(64));"));
        }
        fails("proved([1, 2], 1)", SHAPE);
        fails("proved([1, 2; 3, 4], 1)", SHAPE);
        fails("proved([1, 2; 3, 4], [1, 2])", SHAPE);
        fails("proved([1, 2; 3, 4], eye(2))", SHAPE);
        fails("proved([1, 2; 3, 4], [1; 2; 3])", SHAPE);
        fails("proved(1, [])", SHAPE);
        fails("proved([], [])", SHAPE);
        fails("proved([], zeros(0, 2))", SHAPE);
        sized("proved([], zeros(0, 1))", 0, 1);
    }

    /** "that with the greatest size in column k (of several the first) is exchanged with row k". */
    private static void pivots() {
        Desk.prints("[l, u, r] = lu([1, 2; 3, 4]); print u, r;", "[3, 4; 0, 0.6666666666666667] [2; 1]\n");
        Desk.prints("[l, u, r] = lu([2, 1; -2, 3]); print l, u, r;", "[1, 0; -1, 1] [2, 1; 0, 4] [1; 2]\n");
        Desk.prints("[l, u, r] = lu([1, 1; -3, 1]); print r;", "[2; 1]\n");
        Desk.prints("[l, u, r] = lu([1, 0, 0; 2, 1, 0; 2, 0, 1]); print r;", "[2; 3; 1]\n");
        Desk.prints("[l, u, r] = lu([0, 0, 1; 0, 1, 0; 1, 0, 0]); print l, r;", "[1, 0, 0; 0, 1, 0; 0, 0, 1] [3; 2; 1]\n");
        Desk.prints("[l, u, r] = lu([]); print cols(l), cols(u), rows(r), cols(r);", "0 0 0 1\n");
        gives("det([1, 2; 3, 4]), det([0, 1; 1, 0]), det([0, 0, 1; 0, 1, 0; 1, 0, 0]), det([0, 1, 0; 0, 0, 1; 1, 0, 0])", "-2 -1 -1 1");
    }

    /** "if it is 0 (so all of them are), the fault is SINGULAR", "det(x): .. (0, if it is SINGULAR; 1 for 0 by 0)". */
    private static void singular() {
        for (String x : new String[] { "0", "[0, 0; 0, 0]", "[1, 2; 2, 4]", "[0, 1; 0, 1]", "[1, 0; 1, 0]",
            "[1, 2, 3; 2, 4, 6; 4, 8, 12]" }) {
            fails("inv(" + x + ")", SINGULAR);
            fails("lu(" + x + ")", SINGULAR);
            Desk.faultAt("x = " + x + " @\\ ones(rows(" + x + "), 1);", SINGULAR);
            Desk.faultAt("x = ones(1, rows(" + x + ")) @/ (" + x + "');", x.equals("0") ? 7 : SINGULAR);
            fails("proved(" + x + ", ones(rows(" + x + "), 1))", SINGULAR);
            gives("det(" + x + ")", "0");
        }
        gives("det([]), det(5), det(-5), inv(4), inv([]), 4 \\ 2, [] \\ []", "1 5 -5 0.25 [] 0.5 []");
        Desk.faultAt("x = 0 @\\ 1;", SINGULAR);
        Desk.faultAt("x = 1 @/ 0;", 7);
        Desk.faultAt("x = 0 @\\ zeros(1, 0);", SINGULAR);
        fails("det([1e200, 0; 0, 1e200])", RANGE);
        fails("det([1, 1e308; -1, 1e308])", RANGE);
        gives("det([1e-200, 0; 0, 1e-200]), det([1e200, 0, 0; 0, 1e-200, 0; 0, 0, 1e200])", "0 1e200");
        gives("inv(5e-324 * 2 ^ 60) == 2 ^ 1014", "1");
        fails("inv(5e-324)", RANGE);
    }

    /** "x \ y": the columns of y, "if y has not n rows: SHAPE", "With fewer rows than columns .. SHAPE". */
    private static void shapes() {
        gives("[2, 0; 0, 4] \\ [2, 4; 8, 16], [2, 0; 0, 4] \\ [2; 8], 2 \\ [4, 6]", "[1, 2; 2, 4] [1; 2] [2, 3]");
        sized("eye(3) \\ zeros(3, 0)", 3, 0);
        sized("[] \\ zeros(0, 5)", 0, 5);
        sized("zeros(3, 0) \\ ones(3, 2)", 0, 2);
        sized("ones(1, 0) \\ 5", 0, 1);
        sized("ones(64, 1) \\ ones(64, 64)", 1, 64);
        sized("zeros(64, 0) \\ ones(64, 1)", 0, 1);
        Desk.faultAt("x = zeros(65, 0) @\\ ones(65, 1);", SHAPE);
        Desk.faultAt("x = ones(65, 1) @\\ ones(65, 1);", SHAPE);
        Desk.faultAt("x = ones(1, 2) @\\ 1;", SHAPE);
        Desk.faultAt("x = zeros(0, 1) @\\ zeros(0, 1);", SHAPE);
        Desk.faultAt("x = eye(2) @\\ 1;", SHAPE);
        Desk.faultAt("x = eye(2) @\\ [1, 2];", SHAPE);
        Desk.faultAt("x = ones(3, 2) @\\ [1; 2];", SHAPE);
        Desk.faultAt("x = 2 @\\ [1; 2];", SHAPE);
        gives("[2, 4] / [2, 0; 0, 4], [2; 4] / 2, 6 / 4", "[1, 1] [1; 2] 1.5");
        Desk.faultAt("x = 1 @/ [1; 2];", SHAPE);
        Desk.faultAt("x = 1 @/ eye(2);", SHAPE);
        Desk.faultAt("x = [1, 2, 3] @/ [1, 2];", SHAPE);
        Desk.faultAt("x = ones(1, 65) @/ ones(1, 65);", SHAPE);
        sized("ones(2, 64) / ones(1, 64)", 2, 1);
        sized("zeros(0, 2) / eye(2)", 0, 2);
        Desk.faultAt("x = \"a\" @/ eye(2);", 3);
        Desk.faultAt("x = eye(3) @/ \"a\";", 3);
    }

    /** Faults of the way: what an elimination, a step down, a step up comes to. */
    private static void rangesOnTheWay() {
        Desk.faultAt("x = [1, 1e308; -1, 1e308] @\\ [1; 1];", RANGE);
        Desk.faultAt("x = [1, 0; -1, 1] @\\ [1e308; 1e308];", RANGE);
        Desk.faultAt("x = [1e-300, 0; 0, 1] @\\ [1e300; 1];", RANGE);
        Desk.faultAt("x = [1, 1e300; 0, 1] @\\ [1; 1e300];", RANGE);
        gives("[1, 0; -1, 1] \\ [1e308; -1e308]", "[1e308; 0]");
        Desk.faultAt("x = [1, 1e300; 0, 1e-10] @\\ [1; 1];", RANGE);
        Desk.faultAt("x = [1, 0; 0, 1e-300] @\\ [1, 1; 1, 1e300];", RANGE);
    }

    /** "by qr (below): c = q' * y; from row m up as above with r, whose diagonal must not be 0 (SINGULAR)". */
    private static void leastSquares() {
        gives("round([1; 1] \\ [1; 3]), round([1, 0; 0, 1; 0, 0] \\ [5; 6; 7]), rows(ones(3, 2) \\ zeros(3, 0) == 1)", "2 [5; 6] 2");
        Desk.faultAt("x = [0; 0] @\\ [1; 1];", SINGULAR);
        Desk.faultAt("x = [1, 0; 1, 0; 1, 0] @\\ [1; 1; 1];", SINGULAR);
        Desk.faultAt("x = [0, 1; 0, 1; 0, 1] @\\ [1; 1; 1];", SINGULAR);
        Desk.faultAt("x = [0, 1e-150; 0, 1e-150; 0, 1e-150] @\\ [1e200; 1e200; 1e200];", RANGE);
        Desk.faultAt("x = [1e200; 1] @\\ [1; 1];", RANGE);
        Desk.prints("x = [1, 1; 1, 2; 1, 3; 1, 5]; y = [1, 2, 9; 2, 3, 8; 4, 4, 7; 8, 5, 6]; z = x \\ y; print z == [x \\ y(:, 1), x \\ y(:, 2), x \\ y(:, 3)];",
            "[1, 1, 1; 1, 1, 1]\n");
        Desk.prints("x = [1, 1; 1, 2; 1, 3]; y = [1, 4; 2, 5; 3, 6]; print all(y' / x' == (x \\ y)');", "1\n");
        Desk.prints("x = [4, 1; 1, 3]; y = [1, 2, 9; 2, 3, 8]; print all(x \\ y == [x \\ y(:, 1), x \\ y(:, 2), x \\ y(:, 3)]);", "1\n");
        Desk.faultAt("x = [1; 1] @\\ [1.7e308; 1.7e308];", RANGE);
    }

    /** "chol(x), n by n, of its lower half: .. POSITIVE if it is not above 0". */
    private static void cholesky() {
        gives("chol(4), chol([4, 99; 2, 5]), chol([]), chol(5e-324)", "2 [2, 0; 1, 2] [] 2.2227587494850775e-162");
        fails("chol(0)", POSITIVE);
        fails("chol(-1)", POSITIVE);
        fails("chol(-0)", POSITIVE);
        fails("chol([1, 0; 1, 1])", POSITIVE);
        fails("chol([1, 0; 2, 1])", POSITIVE);
        gives("chol([1, 0; 1, 1.0000000000000002]) == [1, 0; 1, 2 ^ -26]", "[1, 1; 1, 1]");
        fails("chol([5e-324, 0; 1e308, 1])", RANGE);
        fails("chol([1, 0; 1e200, 1])", RANGE);
        fails("chol([0, 0; 1e308, 1])", POSITIVE);
    }

    /** "qr(x), n by m, n not below m (SHAPE)"; "(n - 1, if that is less)"; "if it is 0, on"; "(RANGE, if that is 0)". */
    private static void reflections() {
        Desk.prints("[q, r] = qr([3; 4]); print q, r;", "[-0.6000000000000001, -0.8; -0.8, 0.6] [-5; 0]\n");
        Desk.prints("[q, r] = qr(5); print q, r; [q, r] = qr(-5); print q, r; [q, r] = qr(0); print q, r;", "1 5\n1 -5\n1 0\n");
        Desk.prints("[q, r] = qr([0; 2]); print q, r; [q, r] = qr([0; -2]); print r;", "[0, 1; 1, 0] [2; 0]\n[2; 0]\n");
        Desk.prints("[q, r] = qr([0, 1; 0, 2]); print q, r;", "[1, 0; 0, 1] [0, 1; 0, 2]\n");
        Desk.prints("[q, r] = qr([1, 2; 0, 3]); print q, r;", "[-1, 0; 0, 1] [-1, -2; 0, 3]\n");
        Desk.prints("[q, r] = qr([]); print cols(q), cols(r); [q, r] = qr(zeros(3, 0)); print q, rows(r), cols(r);",
            "0 0\n[1, 0, 0; 0, 1, 0; 0, 0, 1] 3 0\n");
        Desk.prints("[q, r] = qr(ones(64, 1)); print rows(q), cols(q), rows(r), cols(r), r(1) == -8, any(r(2:64));", "64 64 64 1 1 0\n");
        fails("qr([1, 2])", SHAPE);
        fails("qr(zeros(0, 1))", SHAPE);
        fails("qr(ones(65, 1))", SHAPE);
        fails("qr(zeros(65, 0))", SHAPE);
        Desk.prints("[q, r] = qr([1e-170; 1e-170]); print q, r;", "[1, 0; 0, 1] [1e-170; 1e-170]\n");
        fails("qr([1e155; 1])", RANGE);
        // h, v' * x, twice that, that by h, and what is left of x.
        fails("qr([1.2e154; 1])", RANGE);
        fails("qr([1e150, 1e200; 1, 1])", RANGE);
        fails("qr([1, 8e307; 0, 1])", RANGE);
        fails("qr([1e-160, 1e300; 0, 1])", RANGE);
        fails("qr([0.4, 1.5e308; 0.4, -1.5e308])", RANGE);
        gives("qr([1, 4e307; 0, 1])", "[-1, 0; 0, 1]");
        Desk.prints("[q, r] = qr([2e-162; 0]); print r(2);", "0\n");
    }

    /** "eig(x), n by n, DOMAIN if it is not its own '". */
    private static void ownTransposed() {
        fails("eig([1, 2; 3, 4])", DOMAIN);
        fails("eig([1, 2, 3; 2, 1, 4; 3, 4.000000000000001, 1])", DOMAIN);
        fails("eig([1, 5e-324; 0, 1])", DOMAIN);
        Desk.prints("[v, w] = eig([1, 0; -0, 2]); print v, w;", "[1; 2] [1, 0; 0, 1]\n");
        Desk.prints("[v, w] = eig([3, 0, 0; 0, 1, 0; 0, 0, 2]); print v, w;", "[1; 2; 3] [0, 0, 1; 1, 0, 0; 0, 1, 0]\n");
        Desk.prints("[v, w] = eig([2, 0, 0; 0, 1, 0; 0, 0, 1]); print v, w;", "[1; 1; 2] [0, 0, 1; 1, 0, 0; 0, 1, 0]\n");
        Desk.prints("[v, w] = eig(7); print v, w; [v, w] = eig([]); print rows(v), cols(v), rows(w), cols(w);", "7 1\n0 1 0 0\n");
        Desk.prints("[v, w] = eig([0, 1; 1, 0]); print v, w;",
            "[-1; 1] [0.7071067811865475, 0.7071067811865475; -0.7071067811865475, 0.7071067811865475]\n");
    }

    /** "if its size is not above 2^-54 times that of x(p,p), nor above 2^-54 times that of x(q,q), both .. become 0". */
    private static void smallBesideTheDiagonal() {
        Desk.prints("[v, w] = eig([1, 2 ^ -54; 2 ^ -54, 1]); print v, w;", "[1; 1] [1, 0; 0, 1]\n");
        Desk.prints("[v, w] = eig([1, 2 ^ -53; 2 ^ -53, 1]); print w(1, 2) == 0;", "0\n");
        Desk.prints("[v, w] = eig([-1, 2 ^ -54; 2 ^ -54, 1]); print v, w;", "[-1; 1] [1, 0; 0, 1]\n");
        Desk.prints("[v, w] = eig([1, 2 ^ -54; 2 ^ -54, 0.5]); print w(1, 2) == 0;", "0\n");
        Desk.prints("[v, w] = eig([0.5, 2 ^ -54; 2 ^ -54, 1]); print w(1, 2) == 0;", "0\n");
        Desk.prints("[v, w] = eig([1, 2 ^ -55; 2 ^ -55, 0.5]); print v, w;", "[0.5; 1] [0, 1; 1, 0]\n");
        Desk.prints("[v, w] = eig([1, 2 ^ -55; 2 ^ -55, 0.25]); print w(1, 2) == 0;", "0\n");
    }

    /** "Turns, 40 at most", "RANGE". */
    private static void turns() {
        fails("eig([0, 1; 1, 1e300])", RANGE);
        fails("eig([1e308, 1e300; 1e300, -1e308])", RANGE);
        gives("eig([1e308, 1; 1, -1e308])", "[-1e308; 1e308]");
        fails("eig([1, 1e308; 1e308, 1])", RANGE);
        fails("eig([0, 1e-200; 1e-200, 1])", RANGE);
        gives("eig([1, 8e307; 8e307, 1]), eig([1, 8.9e307; 8.9e307, 1])", "[-8e307; 8e307] [-8.9e307; 8.9e307]");
        fails("eig([1, 9e307; 9e307, 1])", RANGE);
        fails("eig([-1.2e308, 8e307; 8e307, -1.2e308])", RANGE);
        fails("eig([1.2e308, 8e307; 8e307, 1.2e308])", RANGE);
        fails("eig([1, 1, 1.5e308; 1, 1, -1.5e308; 1.5e308, -1.5e308, 1])", RANGE);
        fails("eig([1, 1, 1.5e308; 1, 1, 1.5e308; 1.5e308, 1.5e308, 1])", RANGE);
        Desk.same("numbers that settle", 0,
            new Desk().run("x = (1:8)' * (1:8) + eye(8); [v, w] = eig(x); y = max(max(abs(w' * w - eye(8)))) < 1e-12;"));
    }

    /** "2, if on the way a product or quotient of numbers that are not 0 was below 2^-1022 in size; otherwise 1". */
    private static void proved() {
        Desk.prints("[z, p] = proved([2, 1; 1, 3], [3; 5]); print z, p;", "[0.8; 1.4] 1\n");
        Desk.prints("[z, p] = proved([], zeros(0, 1)); print rows(z), cols(z), p;", "0 1 1\n");
        Desk.prints("[z, p] = proved(1, 2 ^ -1022); print p; [z, p] = proved(1, 2 ^ -1022 - 5e-324); print p; [z, p] = proved(1, 5e-324); print p;", "1\n2\n2\n");
        Desk.prints("[z, p] = proved(1, -(2 ^ -1022)); print p; [z, p] = proved(-1, 2 ^ -1022 - 5e-324); print p;", "1\n2\n");
        Desk.prints("[z, p] = proved(1, 0); print z, p; [z, p] = proved(eye(3), zeros(3, 1)); print p;", "0 1\n1\n");
        Desk.prints("[z, p] = proved(1e308, 1e-10); print z == 0, p; [z, p] = proved(1e308, 1e-300); print z, p;", "0 2\n0 2\n");
        Desk.prints("[z, p] = proved([1, 0; 2 ^ -1022, 1], [1; 1]); print p; [z, p] = proved([1, 0; 2 ^ -1023, 1], [1; 1]); print p;",
            "1\n2\n");
        // Too small alone: l, l u, l y, u z, and the quotient by u; but not what is 0 for a 0.
        Desk.prints("[z, p] = proved([1, 0; 2 ^ -1023, 1], [0; 1]); print p;", "2\n");
        Desk.prints("[z, p] = proved([1, 1e-200; 1e-200, 1], [0; 1]); print p;", "2\n");
        Desk.prints("[z, p] = proved([1, 0; 1e-200, 1], [1e-200; 1]); print p;", "2\n");
        Desk.prints("[z, p] = proved([1, 1e-200; 0, 1], [1; 1e-200]); print p;", "2\n");
        Desk.prints("[z, p] = proved([1, 0; 0, 1e200], [1; 1e-200]); print p;", "2\n");
        Desk.prints("[z, p] = proved([1, 0; 1e-200, 1], [0; 1]); print p; [z, p] = proved([1, 1e-200; 0, 1], [1; 0]); print p;", "1\n1\n");
        Desk.prints("[z, p] = proved([1, 0.5; 0.5, 1], [1; 1]); print z, p; z = proved(4, 2); print z; [~, p] = proved(3, 1); print p;",
            "[0.6666666666666667; 0.6666666666666666] 1\n0.5\n1\n");
        fails("proved(0, 1)", SINGULAR);
        fails("proved(5e-324, 1)", RANGE);
        fails("proved([1, 2; 2, 4], [1; 1])", SINGULAR);
        Desk.prints("x = 1 ./ ((1:12)' * ones(1, 12) + ones(12, 1) * (0:11)); [z, p] = proved(x, ones(12, 1)); print p, all(z == x \\ ones(12, 1));", "1 1\n");
    }

    public static void main(String[] args) {
        squares();
        pivots();
        singular();
        shapes();
        rangesOnTheWay();
        leastSquares();
        cholesky();
        reflections();
        ownTransposed();
        smallBesideTheDiagonal();
        turns();
        proved();
        Desk.finish();
    }
}
