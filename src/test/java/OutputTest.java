import java.math.BigDecimal;
import java.math.MathContext;
import java.math.RoundingMode;

/** Promises 8, 9 and 10: printed, output and tear; what print and show write. */
public final class OutputTest {
    private static void outputAndTear() {
        Desk desk = new Desk();
        EquationBench x = desk.bench;
        desk.run("print \"ab\"; show \"c\";");
        Desk.same("printed", 5, x.printed());
        Desk.same("output(0)", 97, x.output(0));
        Desk.same("output(2)", 10, x.output(2));
        Desk.same("output(4)", 10, x.output(4));
        Desk.same("output(5)", -1, x.output(5));
        Desk.same("output(-1)", -1, x.output(-1));
        Desk.same("output(least)", -1, x.output(Integer.MIN_VALUE));
        Desk.same("output(most)", -1, x.output(Integer.MAX_VALUE));
        desk.run("print 1;");
        Desk.same("more", "ab\nc\n1\n", desk.output());
        Desk.same("tear", 7, x.tear());
        Desk.same("tear again", 0, x.tear());
        Desk.same("printed nothing", 0, x.printed());
        Desk.same("output(0) of nothing", -1, x.output(0));
        desk.run("print 2; x = 1 / 0;");
        Desk.same("what was printed before a fault stays", "2\n", desk.output());
    }

    private static void fullAt65536() {
        Desk desk = new Desk();
        StringBuilder text = new StringBuilder();
        for (int i = 0; i < 4095; i++) {
            text.append((char) ('!' + i % 90 == '"' ? '-' : '!' + i % 90));
        }
        String t = "t = \"" + text + "\"; ";
        Desk.same("65536 characters", 0, desk.run(t + "for (i = 1:16) print t; end"));
        Desk.same("printed", 65536, desk.bench.printed());
        Desk.same("the last one", 10, desk.bench.output(65535));
        Desk.same("one more", 15, desk.run("  print \"\";"));
        Desk.same("its place", 2, desk.bench.place());
        Desk.same("nothing came", 65536, desk.bench.printed());
        Desk.same("lines of no rows", 0, desk.run("show zeros(0, 3);"));
        Desk.same("show of a line", 15, desk.run("show zeros(1, 0);"));
        Desk.same("caught", 0, desk.run("try print 1; catch x = fault(); end"));
        Desk.same("OUT", "1x1: 15.0", desk.value("x"));
        Desk.same("tear", 65536, desk.bench.tear());
        desk.run(t + "for (i = 1:15) print t; end print 1;");
        Desk.same("room for 4094", 15 * 4096 + 2, desk.bench.printed());
        Desk.same("too much at once", 15, desk.run("print 1, t, 2;"));
        Desk.same("none of it came", 15 * 4096 + 2, desk.bench.printed());
        Desk.same("fuel was taken all the same", 200000 - 4 - 16 - 127, desk.bench.left());
        Desk.same("a large matrix", 15, desk.run("show ones(64, 64) / 3;"));
        Desk.same("none of it came either", 15 * 4096 + 2, desk.bench.printed());
    }

    private static void print() {
        Desk.prints("print 1, \"a b\", [1, 2; 3, 4], [], zeros(2, 0), zeros(0, 2), [5], \"\";",
            "1 a b [1, 2; 3, 4] [] [; ] [] 5 \n");
        Desk.prints("print [1; 2; 3], -0, 0 * -1, [-1.5, 0.25];", "[1; 2; 3] 0 0 [-1.5, 0.25]\n");
    }

    private static void shortTexts() {
        Desk.prints("print 0.001, 0.0001, 0.00001, 0.000123456;", "0.001 0.0001 1e-5 0.000123456\n");
        Desk.prints("print 1e15, 1e16, 9999999999999998, 12345678901234567;",
            "1000000000000000 1e16 9999999999999998 1.2345678901234568e16\n");
        Desk.prints("print 123456.789, 100, 1200000, 0.1, 1 / 3, 2 / 3;",
            "123456.789 100 1200000 0.1 0.3333333333333333 0.6666666666666666\n");
        Desk.prints("print 5e-324, 1.7976931348623157e308, 2.2250738585072014e-308, 1e23, 9007199254740993;",
            "5e-324 1.7976931348623157e308 2.2250738585072014e-308 1e23 9007199254740992\n");
        Desk.prints("print 4.35, 4.349999999999999, 2e-3, 1e21, 123e-7, -1e-7;", "4.35 4.349999999999999 0.002 1e21 1.23e-5 -1e-7\n");
        Desk.prints("print 2 ^ 60, 2 ^ -30, 2 ^ 1023, 1e22, 1e100;",
            "1.152921504606847e18 9.313225746154785e-10 8.98846567431158e307 1e22 1e100\n");
    }

    private static void readsBack() {
        Desk desk = new Desk();
        long seed = 12345;
        for (int i = 0; i < 400; i++) {
            seed = seed * 6364136223846793005L + 1442695040888963407L;
            double x = Double.longBitsToDouble(seed & Long.MAX_VALUE);
            if (Double.isNaN(x) || Double.isInfinite(x)) {
                continue;
            }
            String exact = new BigDecimal(x).round(new MathContext(30)).toString().replace("E", "e");
            desk.bench.tear();
            desk.run("print " + exact + ", -" + exact + ";");
            String[] both = desk.output().trim().split(" ");
            Desk.same("reads back " + exact, x, Double.parseDouble(both[0]));
            Desk.same("below 0 of " + exact, "-" + both[0], both[1]);
            Desk.same("no shorter one is " + both[0], false, hasShorter(x, both[0]));
        }
    }

    private static boolean hasShorter(double x, String text) {
        int digits = new BigDecimal(text).stripTrailingZeros().precision();
        if (digits == 1) {
            return false;
        }
        BigDecimal exact = new BigDecimal(x);
        double down = exact.round(new MathContext(digits - 1, RoundingMode.DOWN)).doubleValue();
        double up = exact.round(new MathContext(digits - 1, RoundingMode.UP)).doubleValue();
        return down == x || up == x;
    }

    private static void numerals() {
        Desk desk = new Desk();
        String[] texts = { "0.1", "1e23", "8.5e22", "9007199254740993", "9007199254740992.9999999999999999999999",
            "2.4703282292062327208e-324", "2.4703282292062328e-324", "2.2250738585072011e-308", "1.7976931348623158e308",
            "123456789012345678901234567890", "0.000000000000000000000000000000000000000000000123e45", "1e-400", "00012.500",
            "4503599627370496.5", "4503599627370497.5", "1.00000000000000011102230246251565404236316680908203125",
            "1.00000000000000011102230246251565404236316680908203126", "1.00000000000000011102230246251565404236316680908203124" };
        for (String text : texts) {
            desk.run("x = " + text + ";");
            Desk.same("numeral " + text, "1x1: " + Double.parseDouble(text), desk.value("x"));
        }
        StringBuilder zeros = new StringBuilder();
        for (int i = 0; i < 850; i++) {
            zeros.append('0');
        }
        // Halfway between two numbers, and a little above that, far behind the digits that count.
        String[] halves = { "288230376151900000", "288230376152100000", "288230376152300000", "9007199254740993" };
        for (String half : halves) {
            String[] both = { half + "." + zeros, half + "." + zeros + "1" };
            for (String text : both) {
                desk.run("x = " + text + ";");
                Desk.same("numeral " + text, "1x1: " + Double.parseDouble(text), desk.value("x"));
            }
        }
    }

    private static void lines() {
        Desk.prints("show [1, 2; 30, 4];", " 1  2\n30  4\n");
        Desk.prints("show [1, 2; 3, 4] / 3, -0.00012345;", "0.33333  0.66667\n1.00000  1.33333\n-0.00012345\n");
        Desk.prints("show \"text\", \"\", 5, [], zeros(2, 0), zeros(0, 2);", "text\n\n5\n\n\n");
        Desk.prints("show [0.5; 100; -0.25], [0; 0], [123456.789; 1];", "  0.50\n100.00\n -0.25\n0\n0\n123457\n     1\n");
        Desk.prints("show [1e20; 0; -1.5], [1e-5, 1], [0.00099999999; 5];",
            "1.0000e20\n        0\n-1.5000e0\n1.0000e-5  1\n0.001\n5.000\n");
        Desk.prints("show [1e16; 1], [9999949999999998; 1], [9999950000000000; 1];",
            "1.0000e16\n 1.0000e0\n9999949999999998\n               1\n1.0000e16\n 1.0000e0\n");
        Desk.prints("show [2.5; 3.5; 100000], [0.125; 12345.5], [99999.5; 2.25];",
            "     2.5\n     3.5\n100000.0\n    0.125\n12345.500\n99999.50\n    2.25\n");
        Desk.prints("show [0.000123; 1e15], [5e-324; 0], -1e-300;",
            "               0.000123\n1000000000000000.000000\n4.9407e-324\n          0\n-1.0000e-300\n");
        Desk.prints("show [12345.5; 12346.5; 123455; 123465], 2 / 3, 1e5 / 3, [1, -1];",
            " 12346\n 12346\n123455\n123465\n0.66667\n33333\n1  -1\n");
        Desk.prints("show [100000.4; 2], [-0.4; 100000];", "100000\n     2\n    -0.4\n100000.0\n");
        Desk.prints("show 1:3, (1:3)' / 8;", "1  2  3\n0.125\n0.250\n0.375\n");
    }

    public static void main(String[] args) {
        outputAndTear();
        fullAt65536();
        print();
        shortTexts();
        readsBack();
        numerals();
        lines();
        Desk.finish();
    }
}
