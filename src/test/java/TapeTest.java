/** Promises 2 and 3: feed and end. */
public final class TapeTest {
    private static final int BLANKS = 0x20202020;

    private static boolean endThrows(EquationBench x, int n) {
        try {
            x.end(n);
            return false;
        } catch (IllegalArgumentException e) {
            return true;
        }
    }

    private static void feedsFourByEach() {
        Desk desk = new Desk();
        EquationBench x = desk.bench;
        Desk.same("feed", 20, x.feed(0x61203d20, 0x3132333b, 0x62203d20, 0x2278793b, 0x223b2020));
        Desk.same("compile", 8, x.compile());
        Desk.same("run", 0, x.run(100));
        Desk.same("a", "1x1: 123.0", desk.value("a"));
        Desk.same("b", "text1x3: 120.0 121.0 59.0", desk.value("b"));
    }

    private static void takesAllBytes() {
        EquationBench x = new EquationBench();
        x.feed(BLANKS, 0x20ff2020, BLANKS, BLANKS, BLANKS);
        Desk.same("compile of character 255", -1, x.compile());
        Desk.same("its place", 5, x.place());
        x.feed(-1, -1, -1, -1, -1);
        Desk.same("compile of 255s", -1, x.compile());
        Desk.same("the place", 0, x.place());
        x.feed(0x20250a41, 0x3d80203b, 0, 0, 0);
        x.end(8);
        Desk.same("compile behind a comment", -1, x.compile());
        Desk.same("the place there", 5, x.place());
    }

    private static void isFullAt65536() {
        EquationBench x = new EquationBench();
        for (int i = 1; i <= 3276; i++) {
            Desk.same("feed", 20 * i, x.feed(BLANKS, BLANKS, BLANKS, BLANKS, BLANKS));
        }
        Desk.same("feed to 65540", -1, x.feed(BLANKS, BLANKS, BLANKS, BLANKS, BLANKS));
        Desk.same("end(16) of 65520", 65516, x.end(16));
        Desk.same("feed to 65536", 65536, x.feed(BLANKS, BLANKS, BLANKS, BLANKS, 0x20783d37));
        Desk.same("feed to 65556", -1, x.feed(0, 0, 0, 0, 0));
        Desk.same("compile", -1, x.compile());
        Desk.same("the text ends too early", 65536, x.place());
        Desk.same("feed of the empty tape", 20, x.feed(0, 0, 0, 0, 0));
    }

    private static void endKeepsTheFirst() {
        Desk desk = new Desk();
        EquationBench x = desk.bench;
        Desk.same("end of nothing throws", true, endThrows(x, 20));
        x.feed(0x78203d20, 0x353b2020, 0x79203d20, 0x363b2020, BLANKS);
        Desk.same("end(-1) throws", true, endThrows(x, -1));
        Desk.same("end(21) throws", true, endThrows(x, 21));
        Desk.same("end(20)", 20, x.end(20));
        Desk.same("end(6)", 6, x.end(6));
        Desk.same("end of 6 throws", true, endThrows(x, 0));
        Desk.same("feed", 26, x.feed(0x203b3b3b, 0, 0, 0, 0));
        Desk.same("end(1)", 7, x.end(1));
        Desk.same("compile", 4, x.compile());
        Desk.same("run", 0, x.run(10));
        Desk.same("x", "1x1: 5.0", desk.value("x"));
        Desk.same("y", "none", desk.value("y"));
        x.feed(BLANKS, BLANKS, BLANKS, BLANKS, BLANKS);
        Desk.same("end(0)", 0, x.end(0));
        Desk.same("compile of nothing", 0, x.compile());
    }

    private static void whatThrowsChangesNothing() {
        EquationBench x = new EquationBench();
        x.feed(0x783d313b, BLANKS, BLANKS, BLANKS, BLANKS);
        endThrows(x, 21);
        endThrows(x, -5);
        endThrows(x, Integer.MIN_VALUE);
        endThrows(x, Integer.MAX_VALUE);
        Desk.same("feed behind it", 40, x.feed(0x793d323b, BLANKS, BLANKS, BLANKS, BLANKS));
        Desk.same("compile", 8, x.compile());
    }

    public static void main(String[] args) {
        feedsFourByEach();
        takesAllBytes();
        isFullAt65536();
        endKeepsTheFirst();
        whatThrowsChangesNothing();
        Desk.finish();
    }
}
