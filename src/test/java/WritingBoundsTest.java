/** The edges of NUMBERS, print, show, SHORT, LINES and OUT, sentence by sentence. */
public final class WritingBoundsTest {
    private static final int RANGE = 6;
    private static final int OUT = 15;

    private static void gives(String expressions, String due) {
        Desk.prints("print " + expressions + ";", due + "\n");
    }

    private static void shows(String expressions, String... lines) {
        StringBuilder due = new StringBuilder();
        for (String line : lines) {
            due.append(line).append('\n');
        }
        Desk.prints("show " + expressions + ";", due.toString());
    }

    /** "the number nearest to the exact result, of two as near the one whose last place is even". */
    private static void nearestNumbers() {
        gives("9007199254740992 + 1, 9007199254740992 + 3, 9007199254740994 + 1, 9007199254740992 - 0.5, 9007199254740992 - 0.25",
            "9007199254740992 9007199254740996 9007199254740996 9007199254740992 9007199254740992");
        gives("9007199254740992 - 0.75, 9007199254740993 - 9007199254740992, 4503599627370496 + 0.5, 4503599627370497 + 0.5",
            "9007199254740991 0 4503599627370496 4503599627370498");
        gives("1 + 1.1102230246251565e-16, 1 + 1.1102230246251568e-16, 1 - 5.551115123125783e-17, 1 - 5.551115123125784e-17",
            "1 1.0000000000000002 1 0.9999999999999999");
        gives("5e-324 / 2, 5e-324 * 0.75, 1.5e-323 / 2, 2.5e-323 / 2, 5e-324 * 5e-324", "0 5e-324 1e-323 1e-323 0");
        gives("0.1 + 0.2, 0.1 * 3, 1 / 3, 2 / 3, 1 / 49 * 49",
            "0.30000000000000004 0.30000000000000004 0.3333333333333333 0.6666666666666666 0.9999999999999999");
        gives("sqrt(2), sqrt(0), sqrt(-0), sqrt(5e-324), sqrt(1e-323), sqrt(4), sqrt(1.7976931348623157e308)",
            "1.4142135623730951 0 0 2.2227587494850775e-162 3.1434555694052576e-162 2 1.3407807929942596e154");
        gives("sqrt(0.9999999999999999), sqrt(1.0000000000000002), sqrt(1.0000000000000004), sqrt(2.2250738585072014e-308)",
            "0.9999999999999999 1 1.0000000000000002 1.4916681462400413e-154");
    }

    /** "one by one, in the order told; x - y z w is grouped from the left". */
    private static void orderOfOperations() {
        gives("1e16 + 1 - 1e16, 1 + 1e16 - 1e16, 1e16 - 1e16 + 1", "0 0 1");
        gives("2 - 3 - 4, 64 / 4 / 2, 1e308 / 10 * 5, 2 ^ 3 ^ 2, 3 - 2 * 3 * 4", "-5 8 5e307 64 -21");
        gives("sum([1e16, 1, 1]), sum([1, 1, 1e16]), cumsum([1e16, 1, 1]), prod([1e-200, 1e-200, 1e300, 1e300])",
            "1e16 1.0000000000000002e16 [1e16, 1e16, 1e16] 0");
        gives("[1e16, 1, 1] * [1; 1; 1], [1, 1, 1e16] * [1; 1; 1], dot([1e16, 1, 1], [1, 1, 1])", "1e16 1.0000000000000002e16 1e16");
    }

    /** "If a result is not finite, it is a fault RANGE." */
    private static void range() {
        gives("1.7976931348623157e308 + 9.979201547673598e291, -1.7976931348623157e308 - 9.979201547673598e291",
            "1.7976931348623157e308 -1.7976931348623157e308");
        Desk.faultAt("x = 1.7976931348623157e308 @+ 9.9792015476736e291;", RANGE);
        Desk.faultAt("x = -1.7976931348623157e308 @- 9.9792015476736e291;", RANGE);
        gives("1.7976931348623157e308 * 1, 1.7976931348623153e308 * 1.0000000000000002", "1.7976931348623157e308 1.7976931348623157e308");
        Desk.faultAt("x = 1.7976931348623155e308 @* 1.0000000000000002;", RANGE);
        Desk.faultAt("x = 1.7976931348623157e308 @/ 0.9999999999999999;", RANGE);
        Desk.faultAt("x = 1 @/ 5e-324;", RANGE);
        gives("1 / 5.562684646268009e-309", "1.7976931348623143e308");
        Desk.faultAt("x = 1 @/ 5.56268464626800e-309;", RANGE);
        Desk.faultAt("x = [1, 2] @* [1e308; 1e308];", RANGE);
        Desk.faultAt("x = [1e308, 1e308] @* [1; -10];", RANGE);
    }

    /** "0 and -0 are one number, told as 0." */
    private static void zero() {
        gives("-0, 0 * -1, -1 * 0, 0 / -5, ceil(-0.5), round(-0.4), [-0, 0], text(-0)", "0 0 0 0 0 0 [0, 0] 0");
        gives("-0 == 0, min([0, -0]) == 0, sign(-0), any(-0), find([-0, 1]), sort([0, -0])", "1 1 0 0 2 [0, 0]");
        Desk.prints("[m, i] = min([0, -0]); [n, j] = max([-0, 0]); [s, k] = sort([0, -0, 0]); print i, j, k;", "1 1 [1, 2, 3]\n");
        shows("[-0; 0], -0, [-0, 1.5]", "0", "0", "0", "0  1.5");
        Desk.faultAt("x = 1 @/ -0;", 7);
        Desk.faultAt("x = @mod(1, -0);", 7);
    }

    /** "print: .. on one line, with a blank between, and character 10 behind: a text as it is; a number .. ; another matrix as '['". */
    private static void print() {
        gives("1", "1");
        gives("1, 2, 3, 4, 5, 6, 7, 8", "1 2 3 4 5 6 7 8");
        gives("\"\"", "");
        gives("\"\", \"\"", " ");
        gives("\"a b\", \"\", \"c\"", "a b  c");
        gives("[], zeros(0, 3), zeros(1, 0), zeros(2, 0), zeros(3, 0)", "[] [] [] [; ] [; ; ]");
        gives("[1], [1, 2], [1; 2], [1, 2; 3, 4], [[], 5]", "1 [1, 2] [1; 2] [1, 2; 3, 4] 5");
        gives("[0.5, -1e-9; 1e20, 100]", "[0.5, -1e-9; 1e20, 100]");
    }

    /** "show: likewise each on lines of its own: a text and 10; each of a matrix's LINES and 10." */
    private static void show() {
        shows("\"a b\", \"\", 5, [1, 2]", "a b", "", "5", "1  2");
        shows("zeros(3, 0)", "", "", "");
        Desk.prints("show zeros(0, 3), [];", "");
        Desk.prints("show zeros(0, 3), zeros(1, 0), \"x\";", "\nx\n");
        shows("1, 2, 3, 4, 5, 6, 7, 8", "1", "2", "3", "4", "5", "6", "7", "8");
    }

    /** "for P from -3 to 0 '0', '.', -P times '0', the digits". */
    private static void shortBelowOne() {
        gives("0.1, 0.01, 0.001, 0.0001", "0.1 0.01 0.001 0.0001");
        gives("0.00001, 0.000099999, 0.00009999, 0.00010001, 0.999, 0.5", "1e-5 9.9999e-5 9.999e-5 0.00010001 0.999 0.5");
        gives("-0.0001, -0.00009, 0.1234567890123456, 0.00012345678901234567", "-0.0001 -9e-5 0.1234567890123456 0.00012345678901234567");
    }

    /** "for P from 1 to 16 the digits with '.' behind the first P of them, or .. the digits and P - n times '0'; otherwise SCIENTIFIC". */
    private static void shortFromOne() {
        gives("1, 10, 100, 1000000000000000, 9000000000000000, 1e16, 1e17", "1 10 100 1000000000000000 9000000000000000 1e16 1e17");
        gives("9999999999999998, 9999999999999999, 12345678901234567, 123456789012345678",
            "9999999999999998 1e16 1.2345678901234568e16 1.2345678901234568e17");
        gives("1.5, 15.5, 150, 123456789.5, 123456789012345.6, 1234567890123456.8",
            "1.5 15.5 150 123456789.5 123456789012345.6 1234567890123456.8");
        gives("-1e15, -1e16, -1.5e16, 1e100, 1.25e-10, -5e-324", "-1000000000000000 -1e16 -1.5e16 1e100 1.25e-10 -5e-324");
        gives("1e9, 1e10, 1e-9, 1e-10, 1e99, 1e308, 1e-99, 1e-300", "1000000000 10000000000 1e-9 1e-10 1e99 1e308 1e-99 1e-300");
    }

    /** "those with the fewest digits; of these the nearest to it, of two as near that whose last digit is even." */
    private static void fewestDigits() {
        gives("5e-324, 1e-323, 1.5e-323, 2e-323, 2.5e-323", "5e-324 1e-323 1.5e-323 2e-323 2.5e-323");
        gives("2 ^ -1022, 2 ^ -1022 - 5e-324, 1.7976931348623157e308, 2 ^ 1023",
            "2.2250738585072014e-308 2.225073858507201e-308 1.7976931348623157e308 8.98846567431158e307");
        gives("2 ^ -44, 2 ^ 60, 2 ^ 54, 2 ^ 89", "5.684341886080802e-14 1.152921504606847e18 1.8014398509481984e16 6.189700196426902e26");
        // 18014398509481990 and 18014398509482010 lie as near to two numbers, and are read as those with an even last place.
        gives("18014398509481988, 18014398509481990, 18014398509481992", "1.8014398509481988e16 1.801439850948199e16 1.801439850948199e16");
        gives("18014398509482012, 18014398509482010, 18014398509482008", "1.8014398509482012e16 1.801439850948201e16 1.801439850948201e16");
        gives("576460752303432064, 576460752303432000, 576460752303431936", "5.764607523034321e17 5.76460752303432e17 5.76460752303432e17");
        gives("576460752303560064, 576460752303560000, 576460752303559936", "5.764607523035601e17 5.7646075230356e17 5.7646075230356e17");
        gives("9007199254740993, 9007199254740994 * 10, 1e22, 1e23, 1e24", "9007199254740992 9.007199254740994e16 1e22 1e23 1e24");
        gives("9.5367431640625e-7, 4.35, 0.3, 2.675, 123456.789", "9.5367431640625e-7 4.35 0.3 2.675 123456.789");
    }

    /** "its numbers but 0 are rounded to 5 digits (the nearest .., of two as near that with an even last digit)". */
    private static void fiveDigits() {
        shows("1.00005e20, 1.00015e20, 1.00025e20, 1.000050001e20, 1.000149999e20", "1.0000e20", "1.0002e20", "1.0002e20", "1.0001e20",
            "1.0001e20");
        shows("1.03125, 1.09375, 12.0625, 12.1875, 1234.25, 1234.75", "1.0312", "1.0938", "12.062", "12.188", "1234.2", "1234.8");
        shows("2 / 3, 1 / 3, 1.000006103515625, 2.00006, 1.99994, 1.99996", "0.66667", "0.33333", "1", "2.0001", "1.9999", "2");
        shows("100002.5, 100003.5, 1.5, 12345.5, 12346.5", "100002", "100004", "1.5", "12346", "12346");
        shows("[12345.5; 0.5], [12346.5; 0.5]", "12345.5", "    0.5", "12346.5", "    0.5");
        shows("99999.4, 99999.5, 99999.6, 99998.5, 0.999994, 0.999996", "99999", "100000", "100000", "99998", "0.99999", "1");
        shows("[3.00005; 0]", "3", "0");
    }

    /** "If these all have P from -3 to 16, .. Otherwise each number but 0 is written as its decimal of 5 digits, SCIENTIFIC, and 0 as '0'." */
    private static void plainOrScientific() {
        shows("0.0001, 0.00009999949, 0.0000999994", "0.0001", "9.9999e-5", "9.9999e-5");
        shows("0.000099999, 0.0000999999, 0.00001", "9.9999e-5", "0.0001", "1.0000e-5");
        shows("1e15, 9999949999999998, 9999950000000000, 9999850000000000, 1e16", "1000000000000000", "9999949999999998", "1.0000e16",
            "9999850000000000",
            "1.0000e16");
        shows("[1e16; 0; -2], [1e-5, 0, -2]", "1.0000e16", "        0", "-2.0000e0", "1.0000e-5  0  -2");
        shows("[1; 1e-5; 123456]", " 1.0000e0", "1.0000e-5", " 1.2346e5");
        shows("5e-324, 1.7976931348623157e308, -1e100, 1e9 * 1e9", "4.9407e-324", "1.7977e308", "-1.0000e100", "1.0000e18");
        shows("[1e20; 0.5; 12]", "1.0000e20", "5.0000e-1", " 1.2000e1");
        shows("[0; 0], 0, [0, 0]", "0", "0", "0", "0  0");
    }

    /** "p being the least number for which all these decimals are multiples of 10^-p (0, if there are none)". */
    private static void placesBehindThePoint() {
        shows("[1; 2.5], [1; 2.25], [0.5; 0.25; 0.125], [10; 20]", "1.0", "2.5", "1.00", "2.25", "0.500", "0.250", "0.125", "10", "20");
        shows("[0; 0.5], [0; 100], 0.00012345", "0.0", "0.5", "  0", "100", "0.00012345");
        shows("[1e15; 0.0001]", "1000000000000000.0000", "               0.0001");
        shows("[1000000; 0.00012345]", "1000000.00000000", "      0.00012345");
        shows("[1, 2.5; 3, 4.25]", "1  2.50", "3  4.25");
    }

    /** "the multiple of 10^-p nearest to the number itself, of two as near the even one". */
    private static void nearestMultiples() {
        shows("123456.789, 123456.5, 123457.5, 1234567.25", "123457", "123456", "123458", "1234567");
        shows("[0.25; 0.5; 100000.75], [100000.25; 0.5]", "     0.25", "     0.50", "100000.75", "100000.2", "     0.5");
        shows("[100000.75; 0.5], [100000.65; 0.5], [100000.125; 0.25]", "100000.8", "     0.5", "100000.6", "     0.5", "100000.12",
            "     0.25");
        shows("[100000.375; 0.25], 262144.5, 262145.5", "100000.38", "     0.25", "262144", "262146");
    }

    /** "'-' is in front of what is below 0 (also if all its digits are 0)": such numbers stand beside none, so only "-0.5" and the like. */
    private static void signs() {
        shows("-1, -0.5, [1; -1], [-10; 5], [0.5; -0.25]", "-1", "-0.5", " 1", "-1", "-10", "  5", " 0.50", "-0.25");
        shows("[-1e-9, 1], [-1e-9; 1]", "-1.0000e-9  1", "-1.0000e-9", "  1.0000e0");
        shows("-123456.5, -99999.5", "-123456", "-100000");
    }

    /** "All texts of a column are as wide as its widest, with blanks in front; two blanks between columns." */
    private static void widths() {
        shows("[1, 22, 333; 4444, 5, 66]", "   1  22  333", "4444   5   66");
        shows("[1, -1; -1, 1]", " 1  -1", "-1   1");
        shows("[0.5, 100; 10, 2]", " 0.5  100", "10.0    2");
        shows("[1e20, 1; 0, 0.5]", "1.0000e20  1.0", "        0  0.5");
    }

    /** "OUT (the output would have more than 65536 characters)"; "If there is no room for all of it: OUT, and nothing comes." */
    private static void out() {
        String t = "t = \"" + Desk.times("t", 4095) + "\"; ";
        Desk desk = new Desk();
        Desk.same("65535 characters", 0, desk.run(t + "for (i = 1:15) print t; end u = \"" + Desk.times("u", 4094) + "\"; print u;"));
        Desk.same("they are there", 65535, desk.bench.printed());
        Desk.same("two more", OUT, desk.run(" print 1;"));
        Desk.same("its place", 1, desk.bench.place());
        Desk.same("none came", 65535, desk.bench.printed());
        Desk.same("show of a line more", OUT, desk.run("show \"\", zeros(1, 0);"));
        Desk.same("none of it came", 65535, desk.bench.printed());
        Desk.same("the one character more", 0, desk.run("print \"\";"));
        Desk.same("all are there", 65536, desk.bench.printed());
        Desk.same("the last one", 10, desk.bench.output(65535));
        Desk.same("none behind", -1, desk.bench.output(65536));
        Desk.same("the 65537th", OUT, desk.run("print \"\";"));
        Desk.same("OUT is caught", 0, desk.run("try print 1; catch x = fault(); end show zeros(0, 3), [];"));
        Desk.same("it is 15", "1x1: 15.0", desk.value("x"));
        Desk.same("tear", 65536, desk.bench.tear());
        Desk.same("there is room again", "1\n", desk.printed("print 1;"));
    }

    public static void main(String[] args) {
        nearestNumbers();
        orderOfOperations();
        range();
        zero();
        print();
        show();
        shortBelowOne();
        shortFromOne();
        fewestDigits();
        fiveDigits();
        plainOrScientific();
        placesBehindThePoint();
        nearestMultiples();
        signs();
        widths();
        out();
        Desk.finish();
    }
}
