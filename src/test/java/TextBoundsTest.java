import java.math.BigDecimal;
import java.math.BigInteger;

/** The edges of texts, sentence by sentence: blanks, tokens, WORDS, the grammar's limits, DEPTH, places of faults. */
public final class TextBoundsTest {
    private static final String[] WORDS = { "if", "elseif", "else", "end", "while", "for", "break", "continue", "return",
        "function", "print", "show", "try", "catch" };

    private static String listOf(String one, int n) {
        StringBuilder all = new StringBuilder();
        for (int i = 0; i < n; i++) {
            all.append(i > 0 ? ", " : "").append(one);
        }
        return all.toString();
    }

    /** a1, a2, .. an. */
    private static String names(int n) {
        StringBuilder all = new StringBuilder();
        for (int i = 1; i <= n; i++) {
            all.append(i > 1 ? ", " : "").append('a').append(i);
        }
        return all.toString();
    }

    /** "Blanks are the characters 9, 10, 13 and 32": every other character behind a NAME is told at its place. */
    private static void blanks() {
        String goesOn = "%<>:+-*/\\^'(=";
        for (int c = 0; c < 256; c++) {
            boolean blank = c == 9 || c == 10 || c == 13 || c == 32;
            int due = blank || goesOn.indexOf(c) >= 0 ? 3 : c == ';' ? EquationBench.NONE : 2;
            Desk.same("fault of x and character " + c, due, new Desk().textFault("x " + (char) c));
            if (blank) {
                Desk.fits("x" + (char) c + "=" + (char) c + "1" + (char) c + ";", 4);
            }
        }
    }

    /** "'%' and all up to the end of its line (10) are as a blank". */
    private static void comments() {
        Desk.fits("x = 1; % a\n y = 2;", 8);
        Desk.fits("x = 1; % a\r y = 2;", 4);
        Desk.fits("x %\n= 1;%", 4);
        Desk.fits("%", 0);
        Desk.fits("%%\n%\n", 0);
        Desk.fits("% \u0000\u00ff @ \" (\nx;", 2);
        Desk.fits("x = \"%\n", EquationBench.NONE);
        Desk.fits("x = \"% y\";", 4);
        Desk.brokenAt("print a%\n@b;");
    }

    /** "A NAME is a letter and any letters, digits and '_'", "large ones other ones than small ones". */
    private static void names() {
        for (String first : new String[] { "a", "z", "A", "Z" }) {
            Desk.fits(first + " = 1;", 4);
        }
        for (String first : new String[] { "`", "{", "@", "_", "\u00e1", "\u00c1" }) {
            Desk.broken(first + "a = 1;", 0);
        }
        Desk.broken("[a = 1;", 3);
        for (String second : new String[] { "0", "9", "_", "A", "Z", "a", "z" }) {
            Desk.fits("x" + second + " = 1;", 4);
        }
        for (String second : new String[] { "/", ":", "^", "[", "@", "`", "{" }) {
            Desk.same("x" + second, true, new Desk().compile("x" + second + " = 1;") == EquationBench.NONE);
        }
        Desk.broken("0a = 1;", 1);
        Desk.prints("ab = 1; aB = 2; Ab = 3; AB = 4; print ab, aB, Ab, AB;", "1 2 3 4\n");
        Desk.prints("a = 1; a_ = 2; a1 = 3; a_1 = 4; a1_ = 5; print a, a_, a1, a_1, a1_;", "1 2 3 4 5\n");
    }

    /** "one of more than 255 is no token". */
    private static void longNames() {
        String n = Desk.times("n", 254);
        Desk.fits(n + " = 1;", 4);
        Desk.fits(n + "7 = 1;", 4);
        Desk.broken("x = 1; " + n + "78 = 1;", 7);
        Desk.broken(n + "78", 0);
        Desk.prints(n + "a = 1; " + n + "b = 2; " + n + " = 3; print " + n + "a, " + n + "b, " + n + ";", "1 2 3\n");
    }

    /** "a NUMERAL is digits, then perhaps '.' and digits, then perhaps 'e', a sign or none, and digits". */
    private static void numerals() {
        for (String good : new String[] { "0", "9", "00", "1.0", "1e0", "1.5e5", "1.5e+5", "1.5e-5", "1e00" }) {
            Desk.fits("x = " + good + ";", 4);
        }
        Desk.brokenAt("x = 1@.;");
        Desk.brokenAt("x = 1@.e1;");
        Desk.brokenAt("x = @.5;");
        Desk.brokenAt("x = 1@..5;");
        Desk.brokenAt("x = 1.5@.5;");
        Desk.brokenAt("x = 1@e;");
        Desk.brokenAt("x = 1@e+;");
        Desk.brokenAt("x = 1@e-;");
        Desk.brokenAt("x = 1@e+-1;");
        Desk.brokenAt("x = 1@e.5;");
        Desk.brokenAt("x = 1.5@e;");
        Desk.brokenAt("x = 1e5@e5;");
        Desk.brokenAt("x = 1e5@.5;");
        Desk.brokenAt("x = 1@E5;");
        Desk.brokenAt("x = 1@e 5;");
        Desk.brokenAt("x = 1 @5;");
        Desk.fits("x = 1.*2;", 6);
        Desk.fits("x = 1./2.^3;", 8);
    }

    /** "it is the number nearest to its value, which must be finite (otherwise it is no token)". */
    private static void finiteNumerals() {
        BigInteger half = BigInteger.ONE.shiftLeft(1024).subtract(BigInteger.ONE.shiftLeft(970));
        Desk.prints("print " + half.subtract(BigInteger.ONE) + ";", "1.7976931348623157e308\n");
        Desk.prints("print " + half.subtract(BigInteger.ONE) + ".9999;", "1.7976931348623157e308\n");
        Desk.broken("x = " + half + ";", 4);
        Desk.broken("x = 1.8e308;", 4);
        Desk.broken("x = 1; y = 1e999999999999999999999;", 11);
        Desk.fits("x = 0e999999999999999999999;", 4);
        Desk.fits("x = 0.000e309;", 4);
        BigDecimal tie = new BigDecimal(Double.MIN_VALUE).divide(new BigDecimal(2));
        Desk.prints("print " + tie.toPlainString() + ";", "0\n");
        Desk.prints("print " + tie.toPlainString() + "1;", "5e-324\n");
        Desk.prints("print " + tie.multiply(new BigDecimal(3)).toPlainString() + ";", "1e-323\n");
        Desk.prints("print 1e-323, 7.4e-324, 1e-999999999999999999999;", "1e-323 5e-324 0\n");
        Desk.prints("print 9007199254740993, 9007199254740995, 9007199254740993.0000000000000000000000000001;",
            "9007199254740992 9007199254740996 9007199254740994\n");
    }

    /** "a TEXT is '"', up to 4096 characters from 32 to 126 but '"', and '"'". */
    private static void texts() {
        for (int c = 0; c < 256; c++) {
            boolean fits = c >= 32 && c <= 126 && c != '"';
            int due = fits ? EquationBench.NONE : c == '"' ? 6 : 4;
            Desk.same("fault of a text with character " + c, due, new Desk().textFault("x = \"" + (char) c + "\";"));
        }
        Desk.fits("x = \"\";", 4);
        Desk.fits("x = \"" + Desk.times("t", 4095) + "\";", 4);
        Desk.fits("x = \"" + Desk.times("t", 4096) + "\";", 4);
        Desk.broken("x = \"" + Desk.times("t", 4097) + "\";", 4);
        Desk.brokenAt("x = @\"abc");
        Desk.brokenAt("x = \"a\"@\"b\";");
        Desk.brokenAt("x = \"a\"@\"");
    }

    /** "TOKENS are as long as can be". */
    private static void longestTokens() {
        Desk.fits("x=a==b;", 6);
        Desk.brokenAt("x=a@= =b;");
        Desk.brokenAt("x=a==@=b;");
        Desk.fits("x=a~=b;", 6);
        Desk.brokenAt("x=a@~ =b;");
        Desk.fits("x=a<=b;y=a>=b;", 12);
        Desk.brokenAt("x=a< @=b;");
        Desk.brokenAt("x=a@=<b;");
        Desk.brokenAt("x=a@!=b;");
        Desk.fits("x=a&&b||c;", 8);
        Desk.brokenAt("x=a@& &b;");
        Desk.brokenAt("x=a@| |b;");
        Desk.brokenAt("x=a&&@&b;");
        Desk.fits("x=a.*b./c.^d;", 10);
        Desk.brokenAt("x=a@. *b;");
        Desk.brokenAt("x=a@.'b;");
        Desk.brokenAt("x=a@.\\b;");
        Desk.brokenAt("x=a.*@*b;");
        Desk.fits("x=a''';", 7);
        Desk.fits("x=~~~a;", 7);
        Desk.fits("[~]=f();", 8);
        Desk.brokenAt("[a,@~=f();");
        Desk.fits("iff=1;", 4);
        Desk.fits("x=1:2;", 6);
    }

    /** "WORDS are no names". */
    private static void words() {
        int[] faultOfEqual = { 3, 0, 0, 0, 6, 4, 0, 0, 7, 9, 6, 5, 4, 0 };
        for (int i = 0; i < WORDS.length; i++) {
            String word = WORDS[i];
            Desk.broken(word + " = 1;", faultOfEqual[i]);
            Desk.brokenAt("x = @" + word + ";");
            Desk.brokenAt("x = f(1, 2, @" + word + ");");
            Desk.brokenAt("[@" + word + "] = f();");
            Desk.brokenAt("[a] = @" + word + "();");
            Desk.brokenAt("for (@" + word + " = 1) end");
            Desk.brokenAt("function @" + word + "() end");
            Desk.brokenAt("function f(@" + word + ") end");
            Desk.brokenAt("function [@" + word + "] = f() end");
            Desk.brokenAt("function r = @" + word + "() end");
            Desk.fits(word + "1 = 1;", 4);
            Desk.fits(word + "_ = 1;", 4);
            Desk.fits(word.substring(0, 1).toUpperCase() + word.substring(1) + " = 1;", 4);
        }
    }

    /** "Calls have at most 8 arguments, '[' statements at most 8 targets, print and show at most 8 values." */
    private static void eightOfEach() {
        for (int n = 7; n <= 8; n++) {
            Desk.fits("x = f(" + listOf("1", n) + ");", 2 * n + 5);
            Desk.fits("[a] = f(" + listOf("1", n) + ");", 2 * n + 7);
            Desk.fits("[" + listOf("a", n) + "] = f();", 2 * n + 6);
            Desk.fits("[" + listOf("~", n) + "] = f();", 2 * n + 6);
            Desk.fits("print " + listOf("1", n) + ";", 2 * n + 1);
            Desk.fits("show " + listOf("1", n) + ";", 2 * n + 1);
            Desk.fits("x = [" + listOf("1", n + 2) + "];", 2 * n + 8);
        }
        String eight = listOf("1", 8);
        Desk.brokenAt("x = f(" + eight + "@, 1);");
        Desk.brokenAt("x = f(" + eight + "@,");
        Desk.brokenAt("x = (f(" + eight + "@, 1));");
        Desk.brokenAt("[a] = f(" + eight + "@, 1);");
        Desk.brokenAt("[" + listOf("a", 9) + "] @= f();");
        Desk.brokenAt("[" + listOf("~", 8) + "@, ~] = f();");
        Desk.brokenAt("print " + eight + "@, 1;");
        Desk.brokenAt("show " + eight + "@, 1;");
        Desk.fits("x = f();", 6);
        Desk.fits("[a] = f();", 8);
        Desk.brokenAt("print@;");
        Desk.brokenAt("show@;");
        Desk.brokenAt("[] @= f();");
    }

    /** "A function has at most 8 parameters, which differ from one another, and 8 results, which do, too". */
    private static void headsOfFunctions() {
        for (int n = 7; n <= 8; n++) {
            Desk.fits("function f(" + names(n) + ") end", 2 * n + 4);
            Desk.fits("function [" + names(n) + "] = f() end", 2 * n + 7);
        }
        Desk.brokenAt("function f(" + names(8) + "@, a9) end");
        Desk.brokenAt("function [" + names(8) + "@, a9] = f() end");
        Desk.brokenAt("function f(a, @a) end");
        Desk.brokenAt("function f(" + names(7) + ", @a1) end");
        Desk.brokenAt("function [a, @a] = f() end");
        Desk.brokenAt("function [" + names(7) + ", @a7] = f() end");
        Desk.fits("function [a, b] = f(b, a) end", 14);
        Desk.fits("function f = f(f) end", 8);
        Desk.fits("function f() end", 5);
        Desk.brokenAt("function [@] = f() end");
        Desk.brokenAt("function f(a) @= 1 end");
    }

    /** "no two functions of a text have one name (the second one cannot stand; without results .. the '(' behind it)". */
    private static void functionsOfOneName() {
        String first = "function f() end ";
        Desk.brokenAt(first + "function f@() end");
        Desk.brokenAt(first + "function r = @f() end");
        Desk.brokenAt(first + "function [r] = @f() end");
        Desk.fits(first + "function f = g() end", 12);
        Desk.fits(first + "function [f] = g() end", 14);
        Desk.brokenAt(first + "function f @end");
        Desk.brokenAt("function r = f() end function g() end function f@() end");
        Desk.fits("function f() end function F() end", 10);
        Desk desk = new Desk();
        Desk.same("one text", 5, desk.compile("function f() end"));
        Desk.same("another text may have that name, too", 5, desk.compile("function f() end"));
        Desk.same("a bench function's name", 5, desk.compile("function abs() end"));
    }

    /** "A '=' may stand behind an "or" of a statement only if that is a NAME, or a NAME with one or two arguments." */
    private static void givingValues() {
        Desk.fits("x = 1;", 4);
        Desk.fits("x(1) = 1;", 7);
        Desk.fits("x(1, 2) = 1;", 9);
        Desk.fits("x(:, :) = 1;", 9);
        Desk.brokenAt("x() @= 1;");
        Desk.brokenAt("x(1, 2, 3) @= 1;");
        Desk.brokenAt("(x) @= 1;");
        Desk.brokenAt("(x(1)) @= 1;");
        Desk.brokenAt("x' @= 1;");
        Desk.brokenAt("x(1)' @= 1;");
        Desk.brokenAt("-x @= 1;");
        Desk.brokenAt("[x, 1] @= 1;");
        Desk.brokenAt("1 @= 1;");
        Desk.brokenAt("\"x\" @= 1;");
        Desk.brokenAt("x + y @= 1;");
        Desk.brokenAt("x:y @= 1;");
        Desk.brokenAt("x = y @= 1;");
        Desk.brokenAt("print x @= 1;");
        Desk.brokenAt("if (x @= 1) end");
        Desk.brokenAt("y = [x @= 1];");
        Desk.brokenAt("y = f(x @= 1);");
    }

    /** "':' as a whole argument, and 'end' anywhere in an argument, stand only in the first two arguments". */
    private static void colonsAndEnds() {
        Desk.fits("x = y(:);", 7);
        Desk.fits("x = y(:, 1);", 9);
        Desk.fits("x = y(1, :);", 9);
        Desk.brokenAt("x = y(1, 2, @:);");
        Desk.brokenAt("x = y(1, 2, @end);");
        Desk.brokenAt("x = y(1, 2, (@end));");
        Desk.brokenAt("x = y(1, 2, 3, @:);");
        Desk.brokenAt("x = y(:, 2@, 3);");
        Desk.brokenAt("x = y(1, :@, 3);");
        Desk.brokenAt("x = y(end, 2@, 3);");
        Desk.brokenAt("x = y(1, [end]@, 3);");
        Desk.brokenAt("x = y(1 + (2 * end), 2@, 3);");
        Desk.brokenAt("x = y(:@1);");
        Desk.brokenAt("x = y(1, :@2);");
        Desk.brokenAt("x = y((@:));");
        Desk.brokenAt("x = y([@:]);");
        Desk.brokenAt("x = y(1:@:);");
        Desk.brokenAt("x = @:;");
        Desk.brokenAt("x = @end;");
        Desk.brokenAt("(@end);");
        Desk.brokenAt("[@end];");
        Desk.brokenAt("x = f([@:], 1);");
        Desk.brokenAt("print @end;");
        Desk.brokenAt("[a] = f(@:);");
        Desk.brokenAt("[a] = f(@end);");
        Desk.brokenAt("[a] = f((@end));");
        Desk.fits("[a] = f(y(end, :));", 14);
        Desk.brokenAt("for (i = @end) end");
        Desk.fits("x = y(1, 2, z(end));", 14);
        Desk.fits("x = y(1, 2, z(:, end), 4);", 18);
        Desk.fits("x = y(z(end), 2, 3);", 14);
        Desk.fits("x = y(end(1));", EquationBench.NONE);
        Desk.fits("x(end) = y(end);", 10);
        Desk.fits("x = y(end, end, 1);", EquationBench.NONE);
        Desk.brokenAt("x = y(z(1, 2, @end), end);");
    }

    /** "break and continue stand only inside a loop (of the same function)." */
    private static void loops() {
        for (String word : new String[] { "break", "continue" }) {
            Desk.brokenAt("@" + word + ";");
            Desk.brokenAt("if (1) @" + word + "; end");
            Desk.brokenAt("try @" + word + "; catch end");
            Desk.brokenAt("function f() @" + word + "; end");
            Desk.brokenAt("while (1) end @" + word + ";");
            Desk.brokenAt("for (i = 1) end @" + word + ";");
            Desk.brokenAt("while (1) end function f() if (1) @" + word + "; end end");
            Desk.fits("while (1) " + word + "; end", 7);
            Desk.fits("for (i = 1) " + word + "; end", 9);
            Desk.fits("while (1) if (2) try catch " + word + "; end else " + word + "; end end", 18);
            Desk.fits("function f() while (1) " + word + "; end end", 12);
            Desk.brokenAt("while (1) " + word + " @1; end");
        }
        Desk.brokenAt("while (1) @function f() end end");
    }

    /** "A statement that begins with '[' may be either of the two that can, as long as both can." */
    private static void eitherStatement() {
        Desk.fits("[a];", 4);
        Desk.fits("[a, b];", 6);
        Desk.fits("[a, b] = f();", 10);
        Desk.fits("[a, b]' * 2;", 9);
        Desk.brokenAt("[a, b] @c;");
        Desk.brokenAt("[a, b @c];");
        Desk.brokenAt("[~, a, b@;");
        Desk.brokenAt("[~, a @+ 1];");
        Desk.fits("[~a, b];", 7);
        Desk.brokenAt("[~a, b] @= f();");
        Desk.brokenAt("[a, b] = @1;");
        Desk.brokenAt("[a, b] = f@;");
        Desk.brokenAt("[a, b] = f()@';");
        Desk.brokenAt("[a, 1] @= f();");
        Desk.brokenAt("[a, b@");
        Desk.brokenAt("[a, b]@");
        Desk.brokenAt("[a, ~]@;");
        Desk.brokenAt("[a, @if];");
        Desk.brokenAt("x = [a] @= f();");
    }

    /** "DEPTH: each open '(' or '[', each sign .. each function, and each if, while, for and try .. is one level". */
    private static void levels() {
        for (String open : new String[] { "(", "[", "f(", "-", "+", "~", "- -(", "f([" }) {
            int each = open.contains("- -") ? 3 : open.equals("f([") ? 2 : 1;
            String most = Desk.times(open, 60 / each);
            Desk.brokenAt("x = " + most + "@(1");
            Desk.brokenAt("x = " + most + "@[1");
            Desk.brokenAt("x = " + most + "@-1");
            Desk.brokenAt("x = " + most + "f@(1");
            Desk.brokenAt("x = " + most + "1@");
        }
        Desk.fits("x = " + Desk.times("(", 60) + "1" + Desk.times(")", 60) + ";", 124);
        Desk.fits("x = " + Desk.times("-", 60) + "1;", 64);
        for (String block : new String[] { "if (1) ", "while (1) ", "for (i = 1) ", "try " }) {
            String most = Desk.times(block, 59);
            Desk.brokenAt(most + "x = (@(");
            Desk.brokenAt(most + "x = (1@");
            Desk.brokenAt(most + "try @if (1)");
            Desk.brokenAt(most + "try @while (1)");
            Desk.brokenAt(most + "try @for (i = 1)");
            Desk.brokenAt(most + "try @try");
            Desk.brokenAt(most + "try x = 1; y = @[");
            Desk.brokenAt(most + "try @[a] = f();");
            Desk.brokenAt(most + "[a] = f(@(1));");
            Desk.brokenAt(most + "if @(");
        }
        Desk.brokenAt("function f() " + Desk.times("try ", 59) + "@try");
        Desk.brokenAt("function f() " + Desk.times("try ", 58) + "x = (@(1));");
    }

    /** "each sign of 'signed' until its post is over", "(with all up to its end)". */
    private static void levelsThatAreOver() {
        String open = Desk.times("(", 59);
        String close = Desk.times(")", 59);
        Desk.fits("x = " + open + "-1 ^ (2)" + close + ";", 127);
        Desk.fits("x = " + open + "-1' .^ (2) + (3) * -4" + close + ";", 135);
        Desk.fits("x = " + open + "-a" + close + ";", 123);
        Desk.brokenAt("x = " + open + "-@(1)");
        Desk.brokenAt("x = " + open + "-a@(1)");
        Desk.brokenAt("x = " + open + "2 ^ -(@(1))");
        Desk.fits("x = " + open + "2 ^ -(1)" + close + ";", 127);
        Desk.fits("x = -1 + -2 + - -3 + " + Desk.times("(", 60) + "1" + Desk.times(")", 60) + ";", 134);
        Desk.brokenAt("x = -1 + -2 + - -3 + " + Desk.times("(", 60) + "@(1");
        Desk.brokenAt("x = (-1) + [-2, -3; -4] + f(-5, -6) + " + Desk.times("(", 60) + "@(1");
        Desk.fits("x = " + open + "(1) + (2) + f(3) + [4]" + close + ";", 137);
        String tries = Desk.times("try ", 59);
        String ends = Desk.times("catch end ", 59);
        Desk.fits(tries + "try catch end try catch end " + ends, 183);
        Desk.fits(tries + "try catch end x = (1); [a, ~] = f(1); " + ends, 197);
        Desk.brokenAt(tries + "try catch @try end");
        Desk.fits("function f() " + Desk.times("try ", 59) + Desk.times("catch end ", 59) + "end " + Desk.times("try ", 60)
            + Desk.times("catch end ", 60), 5 + 177 + 180);
        Desk.fits("if (1) " + Desk.times("try ", 58) + Desk.times("catch end ", 58) + "elseif ((1)) else x = ((1)); end", 194);
    }

    /** "A text that is none has a FAULT at .. the text's length, if its end is too early." */
    private static void endsTooEarly() {
        String[] texts = { "x", "x =", "x = 1", "x(1", "x(1,", "x(:", "x = [", "x = [1;", "if", "if (", "if (1", "if (1)", "if (1) else",
            "while (1) break", "for (i", "for (i =", "for (i = 1)", "try", "try catch", "function", "function f", "function [a",
            "function [a]", "function f(", "function f(a", "function f(a)", "print", "print 1", "print 1,", "return", "[a", "[a]",
            "[~", "[a] =", "[a] = f", "[a] = f(", "[a] = f()", "-", "2 ^ -", "x; y" };
        for (String text : texts) {
            Desk.broken(text, text.length());
            Desk.broken(text + " % more\n ", text.length() + 9);
        }
        Desk.fits("", 0);
        Desk.fits("x;", 2);
    }

    /** A token of two signs at a text's end, and a NUMERAL there, are as long as can be, too. */
    private static void tokensAtTheEnd() {
        for (String sign : new String[] { "||", "&&", "==", "~=", "<=", ">=", ".*", "./", ".^" }) {
            Desk.broken("x" + sign, 3);
        }
        for (String good : new String[] { "1", "1.5", "1e5", "1e+5", "1.5e-5", "12", "1.25" }) {
            Desk.broken("x = " + good, 4 + good.length());
        }
        Desk.brokenAt("x = 1@.");
        Desk.brokenAt("x = 1@e");
        Desk.brokenAt("x = 1@e+");
        Desk.brokenAt("x = 1.5@e-");
        Desk.brokenAt("x@.");
        Desk.brokenAt("x@&");
        Desk.brokenAt("x@|");
        Desk.brokenAt("x = @\"");
    }

    /** A text is looked at by itself: what texts before it were, long, broken or open, changes nothing. */
    private static void textsBefore() {
        String long1 = "function [r, s] = f(a, b) r = 1.5e-3; end [x, ~] = f(a(end, :), \"t\"); if (x == [1, 2; 3, 4]) print x'; else y(1, 2) = -3 ^ -2; end";
        for (int to = 0; to <= long1.length(); to++) {
            Desk used = new Desk();
            used.compile(long1 + " z123456789 = 1234.5678e12;");
            used.compile(long1.replace('1', '7') + " z = \"" + Desk.times("9", 40) + "\";");
            used.compile(long1);
            Desk fresh = new Desk();
            String text = long1.substring(0, to);
            Desk.same("tokens of " + text, fresh.compile(text), used.compile(text));
            Desk.same("place in " + text, fresh.bench.place(), used.bench.place());
        }
        Desk desk = new Desk();
        for (int i = 0; i < 70; i++) {
            desk.bench.compile();
            Desk.same("open brackets", EquationBench.NONE, desk.compile("x = " + Desk.times("1+(", 9) + "-"));
        }
        Desk.same("70 such texts", 124, desk.compile("x = " + Desk.times("(", 60) + "1" + Desk.times(")", 60) + ";"));
        Desk other = new Desk();
        for (String open : new String[] { "if (1) ", "try ", "while (1) for (i = 1) ", "function f() ", "x = (-", "[a, b, c, d, e, f, ",
            "x = f(1, [2; " }) {
            other.compile(open);
            Desk.same("levels behind " + open, 180, other.compile(Desk.times("try ", 60) + Desk.times("catch end ", 60)));
            other.compile(open);
            Desk.same("an end of another text's block", EquationBench.NONE, other.compile("end"));
            Desk.same("its place", 0, other.bench.place());
            other.compile(open);
            Desk.same("a loop of another text", EquationBench.NONE, other.compile("x = 1; break;"));
            Desk.same("its place", 7, other.bench.place());
            other.compile(open);
            Desk.same("a fault of its own", EquationBench.NONE, other.compile("[a, )"));
            Desk.same("its place", 4, other.bench.place());
        }
    }

    /** A text may have many functions, and each is found. */
    private static void manyFunctions() {
        StringBuilder all = new StringBuilder();
        StringBuilder sum = new StringBuilder("print 0");
        for (int i = 0; i < 60; i++) {
            all.append("function r = f").append(i).append("(x) r = x + ").append(i).append("; end ");
            sum.append(" + f").append(i).append("(").append(i % 3).append(")");
        }
        Desk.prints(all.toString() + sum + ";", "1830\n");
        Desk.brokenAt(all + "function r = @f0() end");
        Desk.brokenAt(all + "function f59@() end");
    }

    /** Numerals with more digits than a number has: what stands far behind decides where it must. */
    private static void longNumerals() {
        double[] all = { Double.MIN_VALUE, 7 * Double.MIN_VALUE, Double.MIN_NORMAL, Math.nextDown(Double.MIN_NORMAL), 1.1e-300, 3.3e-200,
            1e-100, 0.1, 1.0, 1e22,
            123456789.125, 3e100, 1e300 };
        for (double x : all) {
            BigDecimal half = new BigDecimal(x).add(new BigDecimal(Math.nextUp(x))).divide(new BigDecimal(2));
            String text = half.toPlainString();
            String point = text.indexOf('.') < 0 ? "." : "";
            BigDecimal less = half.subtract(new BigDecimal(Double.MIN_VALUE).movePointLeft(20));
            for (String numeral : new String[] { text, text + point + Desk.times("0", 60) + "1", less.toPlainString(),
                half.movePointRight(50).toPlainString() + "e-50" }) {
                Desk desk = new Desk();
                desk.run("x = " + numeral + ";");
                Desk.same("numeral " + numeral, "1x1: " + Double.parseDouble(numeral), desk.value("x"));
            }
        }
    }

    /** Halfway between two numbers, and a 1 at the digit that is the last one kept, or near it. */
    private static void digitsThatAreCutOff() {
        for (double x : new double[] { 1.0, 3.0, 9.0, 9.75, 97.0, 1e15, 0.1, 0.97, 123456789.125, 987654321.0, 1e-5 }) {
            String half = new BigDecimal(x).add(new BigDecimal(Math.nextUp(x))).divide(new BigDecimal(2)).toPlainString();
            String begin = half.indexOf('.') < 0 ? half + "." : half;
            int digits = new BigDecimal(half).precision();
            for (int total = 796; total <= 804; total++) {
                String numeral = begin + Desk.times("0", total - 1 - digits) + "1";
                Desk desk = new Desk();
                desk.run("x = " + numeral + ";");
                Desk.same("numeral of " + total + " digits: " + numeral, "1x1: " + Math.nextUp(x), desk.value("x"));
            }
        }
    }

    /** "A FAULT at the place of the first token with which the tokens up to it are no beginning of a program". */
    private static void theFirstFaultCounts() {
        Desk.brokenAt("x = @); y = @;");
        Desk.brokenAt("x = 1; @) @");
        Desk.brokenAt("@\u0001 x = );");
        Desk.brokenAt("  @1.8e308;");
        Desk.brokenAt("\n\n%c\n @else");
        Desk.brokenAt("x = y @z;");
    }

    /** "The 16385th token cannot stand." */
    private static void tokensOfOneText() {
        Desk.fits(Desk.times("x;", 8191) + "x", EquationBench.NONE);
        Desk.fits(Desk.times("x;", 8192), 16384);
        Desk.fits(Desk.times("x;", 8192) + " % y", 16384);
        Desk.brokenAt(Desk.times("x;", 8192) + " @x");
        Desk.brokenAt("if (1)" + Desk.times("x;", 8190) + "@end");
        Desk.fits("if (1)" + Desk.times("x;", 8189) + ";", EquationBench.NONE);
    }

    public static void main(String[] args) {
        blanks();
        comments();
        names();
        longNames();
        numerals();
        finiteNumerals();
        texts();
        longestTokens();
        words();
        eightOfEach();
        headsOfFunctions();
        functionsOfOneName();
        givingValues();
        colonsAndEnds();
        loops();
        eitherStatement();
        levels();
        levelsThatAreOver();
        endsTooEarly();
        tokensAtTheEnd();
        textsBefore();
        manyFunctions();
        longNumerals();
        digitsThatAreCutOff();
        theFirstFaultCounts();
        tokensOfOneText();
        Desk.finish();
    }
}
