import java.util.Arrays;

/**
 * A bench for matrix equations: programs in a language of matrices are read, compiled and run.
 * ../shared/DOC.md says what each call promises.
 */
public final class EquationBench {
    public static final int NONE = -1;

    private static final int MOST_CHARACTERS = 65536;
    private static final int MOST_TOKENS = 16384;
    private static final int MOST_LEVELS = 60;
    private static final int MOST_OF_EACH = 8;
    private static final int MOST_NUMBERS = 4096;
    private static final int MOST_KEPT = 65536;
    private static final int MOST_NAMED = 4096;
    private static final int MOST_WAITING = 256;
    private static final int MOST_FRAMES = 60;
    private static final int MOST_FUEL = 200000;
    private static final int MOST_TURNS = 40;
    private static final int MOST_SIDE = 64;
    private static final int FULL_TANK = 4000000;
    private static final int HIGHEST_INDEX = 1073741824;

    private static final int BAD_NAME = 2;
    private static final int BAD_KIND = 3;
    private static final int BAD_SHAPE = 4;
    private static final int BAD_INDEX = 5;
    private static final int BAD_RANGE = 6;
    private static final int BAD_ZERO = 7;
    private static final int BAD_DOMAIN = 8;
    private static final int BAD_SINGULAR = 9;
    private static final int BAD_POSITIVE = 10;
    private static final int BAD_COUNT = 11;
    private static final int BAD_MEMORY = 12;
    private static final int BAD_DEPTH = 13;
    private static final int BAD_FUEL = 14;
    private static final int BAD_OUT = 15;
    private static final int BAD_CALLED = 16;
    private static final int BAD_STILL = 17;

    private static final int T_BROKEN = -1;
    private static final int T_OVER = 0;
    private static final int T_NAME = 1;
    private static final int T_NUMERAL = 2;
    private static final int T_TEXT = 3;
    private static final int T_IF = 10;
    private static final int T_ELSEIF = 11;
    private static final int T_ELSE = 12;
    private static final int T_END = 13;
    private static final int T_WHILE = 14;
    private static final int T_FOR = 15;
    private static final int T_BREAK = 16;
    private static final int T_CONTINUE = 17;
    private static final int T_RETURN = 18;
    private static final int T_FUNCTION = 19;
    private static final int T_PRINT = 20;
    private static final int T_SHOW = 21;
    private static final int T_TRY = 22;
    private static final int T_CATCH = 23;
    private static final int T_OR = 30;
    private static final int T_AND = 31;
    private static final int T_EQUAL = 32;
    private static final int T_UNEQUAL = 33;
    private static final int T_AT_MOST = 34;
    private static final int T_AT_LEAST = 35;
    private static final int T_BELOW = 36;
    private static final int T_ABOVE = 37;
    private static final int T_COLON = 38;
    private static final int T_PLUS = 39;
    private static final int T_MINUS = 40;
    private static final int T_TIMES = 41;
    private static final int T_SLASH = 42;
    private static final int T_BACKSLASH = 43;
    private static final int T_DOT_TIMES = 44;
    private static final int T_DOT_SLASH = 45;
    private static final int T_POWER = 46;
    private static final int T_DOT_POWER = 47;
    private static final int T_QUOTE = 48;
    private static final int T_NOT = 49;
    private static final int T_ROUND = 50;
    private static final int T_UNROUND = 51;
    private static final int T_SQUARE = 52;
    private static final int T_UNSQUARE = 53;
    private static final int T_COMMA = 54;
    private static final int T_SEMICOLON = 55;
    private static final int T_IS = 56;

    private static final int I_STEP = 0;
    private static final int I_NUMBER = 1;
    private static final int I_TEXT = 2;
    private static final int I_NAME = 3;
    private static final int I_OPEN = 4;
    private static final int I_OPEN_PART = 5;
    private static final int I_OPEN_CALL = 6;
    private static final int I_COLON = 7;
    private static final int I_END = 8;
    private static final int I_CLOSE = 9;
    private static final int I_CLOSE_CALL = 10;
    private static final int I_WRITE = 11;
    private static final int I_STORE = 12;
    private static final int I_DROP = 13;
    private static final int I_KEEP = 14;
    private static final int I_PAIR = 15;
    private static final int I_SIGN = 16;
    private static final int I_RANGE = 17;
    private static final int I_TEST = 18;
    private static final int I_TRUTH = 19;
    private static final int I_JUMP = 20;
    private static final int I_JUMP_UNLESS = 21;
    private static final int I_ASK = 22;
    private static final int I_FOR = 23;
    private static final int I_TURN = 24;
    private static final int I_TRY = 25;
    private static final int I_UNTRY = 26;
    private static final int I_PRINT = 27;
    private static final int I_VALUE = 28;
    private static final int I_ROW = 29;
    private static final int I_SQUARE = 30;
    private static final int I_NOTHING = 31;
    private static final int I_RETURN = 32;

    private static final String WORDS =
        "if elseif else end while for break continue return function print show try catch ";
    private static final int FIRST_FUNCTION = 14;
    private static final String FUNCTIONS =
        "zeros ones eye rows cols count size sum prod min max any all cumsum abs sqrt floor ceil round sign mod ";
    private static final String MORE_FUNCTIONS =
        "dot norm kron trace diag tril triu reshape repeat find sort lu det inv chol qr eig proved text error fault ";
    private static final int F_ZEROS = 0;
    private static final int F_ONES = 1;
    private static final int F_EYE = 2;
    private static final int F_ROWS = 3;
    private static final int F_COLS = 4;
    private static final int F_COUNT = 5;
    private static final int F_SIZE = 6;
    private static final int F_SUM = 7;
    private static final int F_PROD = 8;
    private static final int F_MIN = 9;
    private static final int F_MAX = 10;
    private static final int F_ANY = 11;
    private static final int F_ALL = 12;
    private static final int F_CUMSUM = 13;
    private static final int F_ABS = 14;
    private static final int F_SQRT = 15;
    private static final int F_FLOOR = 16;
    private static final int F_CEIL = 17;
    private static final int F_ROUND = 18;
    private static final int F_SIGN = 19;
    private static final int F_MOD = 20;
    private static final int F_DOT = 21;
    private static final int F_NORM = 22;
    private static final int F_KRON = 23;
    private static final int F_TRACE = 24;
    private static final int F_DIAG = 25;
    private static final int F_TRIL = 26;
    private static final int F_TRIU = 27;
    private static final int F_RESHAPE = 28;
    private static final int F_REPEAT = 29;
    private static final int F_FIND = 30;
    private static final int F_SORT = 31;
    private static final int F_LU = 32;
    private static final int F_DET = 33;
    private static final int F_INV = 34;
    private static final int F_CHOL = 35;
    private static final int F_QR = 36;
    private static final int F_EIG = 37;
    private static final int F_PROVED = 38;
    private static final int F_TEXT = 39;
    private static final int F_ERROR = 40;
    private static final int F_FAULT = 41;
    private static final int FUNCTION_COUNT = 42;
    /** By function: the fewest arguments, the most, and how many results it has. */
    private static final int[] CALLED_WITH = {
        2, 2, 1,  2, 2, 1,  1, 1, 1,  1, 1, 1,  1, 1, 1,  1, 1, 1,  1, 1, 2,
        1, 2, 1,  1, 1, 1,  1, 1, 2,  1, 1, 2,  1, 1, 1,  1, 1, 1,  1, 1, 1,
        1, 1, 1,  1, 1, 1,  1, 1, 1,  1, 1, 1,  1, 1, 1,  1, 1, 1,  2, 2, 1,
        2, 2, 1,  1, 1, 1,  2, 2, 1,  1, 1, 1,  1, 1, 1,  1, 1, 1,  1, 1, 1,
        3, 3, 1,  3, 3, 1,  1, 1, 1,  1, 1, 2,  1, 1, 3,  1, 1, 1,  1, 1, 1,
        1, 1, 1,  1, 1, 2,  1, 1, 2,  2, 2, 2,  1, 1, 1,  1, 1, 0,  0, 0, 1 };

    private char[] tape = new char[256];
    private int taped;
    private Program program = new Program();
    private Program spare = new Program();
    private boolean compiled;
    private final Scanner scanner = new Scanner();
    private final Parser parser = new Parser();
    private final Store store = new Store();
    private final Output printer = new Output();
    private final Machine machine = new Machine(store, printer);
    private final Value answer = new Value();
    private boolean answered;
    private int faultPlace = NONE;
    private int unused;
    private int tank = FULL_TANK;

    public EquationBench() {
    }

    public int feed(int a, int b, int c, int d, int e) {
        if (taped + 20 > MOST_CHARACTERS) {
            return NONE;
        }
        if (taped + 20 > tape.length) {
            tape = Arrays.copyOf(tape, tape.length * 2);
        }
        putFour(a);
        putFour(b);
        putFour(c);
        putFour(d);
        putFour(e);
        return taped;
    }

    private void putFour(int four) {
        for (int shift = 24; shift >= 0; shift -= 8) {
            if (taped < tape.length) {
                tape[taped] = (char) (four >>> shift & 255);
                taped++;
            }
        }
    }

    public int end(int n) throws IllegalArgumentException {
        if (n < 0 || n > 20 || taped < 20) {
            throw new IllegalArgumentException("not 0 to 20 of the last twenty characters");
        }
        taped = taped - 20 + n;
        return taped;
    }

    public int compile() {
        spare.begin(tape, taped);
        taped = 0;
        scanner.scan(spare);
        spare.roomForNames(scanner.names);
        if (!parser.parse(spare)) {
            faultPlace = spare.spotOf(parser.faultToken());
            return NONE;
        }
        Program former = program;
        program = spare;
        spare = former;
        compiled = true;
        faultPlace = NONE;
        return program.tokens;
    }

    public int place() {
        return faultPlace;
    }

    public int run(int fuel) throws IllegalArgumentException, IllegalStateException {
        if (fuel < 0 || fuel > MOST_FUEL) {
            throw new IllegalArgumentException("fuel is 0 to 200000");
        }
        if (!compiled) {
            throw new IllegalStateException("there is no program");
        }
        int given = Math.min(fuel, tank);
        int fault = machine.go(program, given);
        unused = machine.fuel;
        tank -= given - unused;
        faultPlace = fault == 0 ? NONE : program.spotOf(machine.spot);
        return fault;
    }

    public int left() {
        return unused;
    }

    public int printed() {
        return printer.length;
    }

    public int output(int i) {
        return i < 0 || i >= printer.length ? NONE : printer.out[i];
    }

    public int tear() {
        int gone = printer.length;
        printer.length = 0;
        return gone;
    }

    public int ask() {
        int name = scanner.onlyName(tape, taped);
        taped = 0;
        int cell = store.find(name);
        answered = cell >= 0;
        if (!answered) {
            return 0;
        }
        store.copy(cell, answer);
        return answer.text ? 2 : 1;
    }

    public int rows() {
        return answered ? answer.high : NONE;
    }

    public int columns() {
        return answered ? answer.wide : NONE;
    }

    public double number(int row, int column) throws IndexOutOfBoundsException {
        if (!answered || row < 0 || row >= answer.high || column < 0 || column >= answer.wide) {
            throw new IndexOutOfBoundsException("no such number");
        }
        double found = answer.data[row * answer.wide + column];
        return found == 0 ? 0.0 : found;
    }

    public int clear() {
        return store.wipe();
    }

    private static boolean isFinite(double x) {
        return x <= 1.7976931348623157E308 && x >= -1.7976931348623157E308;
    }

    private static double sizeOf(double x) {
        return x < 0 ? -x : x;
    }

    private static boolean isWhole(double x) {
        // From 2^53 on every number is whole, and what lies below fits in a long.
        return sizeOf(x) >= 9007199254740992.0 || x == (double) (long) x;
    }

    private static boolean isWholeFrom(double x, int least, int most) {
        return x >= least && x <= most && x == (double) (int) x;
    }

    private static double floorOf(double x) {
        if (sizeOf(x) >= 4503599627370496.0) {
            return x;
        }
        double cut = (double) (long) x;
        return cut > x ? cut - 1 : cut;
    }

    /** The whole number nearest, of two the one farther from 0. */
    private static double roundOf(double x) {
        double size = sizeOf(x);
        double cut = floorOf(size);
        double whole = size - cut >= 0.5 ? cut + 1 : cut;
        return x < 0 ? -whole : whole;
    }

    /** The power of two that the last place of x, above 0, stands for. */
    private static int exponentOf(double x) {
        double rest = x;
        int power = -52;
        for (int i = 0; i < 20 && rest >= 1.8446744073709552E19; i++) {
            rest = rest / 1.8446744073709552E19;
            power += 64;
        }
        for (int i = 0; i < 20 && rest < 1.0; i++) {
            rest = rest * 1.8446744073709552E19;
            power -= 64;
        }
        for (int i = 0; i < 10 && rest >= 256.0; i++) {
            rest = rest / 256.0;
            power += 8;
        }
        for (int i = 0; i < 10 && rest >= 2.0; i++) {
            rest = rest / 2.0;
            power++;
        }
        return Math.max(power, -1074);
    }

    /** x times 2 to the power k, where that is a number again. */
    private static double scaled(double x, int k) {
        double result = x;
        int rest = Math.abs(k);
        for (int i = 0; i < 8 && rest >= 256; i++) {
            result = k > 0 ? result * 1.157920892373162E77 : result / 1.157920892373162E77;
            rest -= 256;
        }
        double factor = 1.0;
        for (int i = 0; i < 16 && rest >= 16; i++) {
            factor = factor * 65536.0;
            rest -= 16;
        }
        for (int i = 0; i < rest; i++) {
            factor = factor * 2.0;
        }
        return k > 0 ? result * factor : result / factor;
    }

    /** The root of x, not below 0, to the nearest number. */
    private static double rootOf(double x) {
        if (x <= 0) {
            return 0;
        }
        double m = x;
        double unit = 1;
        for (int i = 0; i < 20 && m >= 18014398509481984.0; i++) {
            m = m / 1.8446744073709552E19;
            unit = unit * 4294967296.0;
        }
        for (int i = 0; i < 20 && m < 2.44140625E-4; i++) {
            m = m * 1.8446744073709552E19;
            unit = unit / 4294967296.0;
        }
        for (int i = 0; i < 40 && m < 4503599627370496.0; i++) {
            m = m * 4.0;
            unit = unit / 2.0;
        }
        // x is m unit unit, and m is whole, from 2^52 to 2^54.
        double y = m / 201326592.0 + 44739242.0;
        for (int i = 0; i < 5; i++) {
            y = (y + m / y) / 2.0;
        }
        long r = (long) (y * 134217728.0);
        // r is so near the root of m 2^54 that the difference fits in a long, though its parts do not.
        long rest = ((long) m << 54) - r * r;
        for (int i = 0; i < 64 && rest < 0; i++) {
            r--;
            rest += 2 * r + 1;
        }
        for (int i = 0; i < 64 && rest > 2 * r; i++) {
            rest -= 2 * r + 1;
            r++;
        }
        return (double) (r + 1 >> 1) * (unit / 67108864.0);
    }

    /** A value by itself: a matrix, row by row, or a text, its characters' numbers in one row. */
    private static final class Value {
        private boolean text;
        private int high;
        private int wide;
        private double[] data = new double[16];

        void shape(boolean isText, int rowCount, int columnCount) {
            text = isText;
            high = rowCount;
            wide = columnCount;
            int room = data.length;
            for (int i = 0; i < 20 && room < high * wide; i++) {
                room = room * 2;
            }
            if (room > data.length) {
                data = new double[room];
            }
        }

        void fill(int rowCount, int columnCount, double number) {
            shape(false, rowCount, columnCount);
            Arrays.fill(data, 0, rowCount * columnCount, number);
        }

        void becomeNumber(double number) {
            shape(false, 1, 1);
            data[0] = number;
        }

        void becomeUnit(int n) {
            shape(false, n, n);
            for (int i = 0; i < n; i++) {
                for (int j = 0; j < n; j++) {
                    data[i * n + j] = i == j ? 1 : 0;
                }
            }
        }

        void becomeColumnOfIndexes(int n) {
            shape(false, n, 1);
            for (int i = 0; i < n; i++) {
                data[i] = i + 1;
            }
        }

        void copyOf(Value other) {
            shape(other.text, other.high, other.wide);
            System.arraycopy(other.data, 0, data, 0, count());
        }

        void becomeTransposed(Value other) {
            shape(false, other.wide, other.high);
            for (int i = 0; i < high; i++) {
                for (int j = 0; j < wide; j++) {
                    data[i * wide + j] = other.data[j * high + i];
                }
            }
        }

        int count() {
            return high * wide;
        }

        boolean isNumber() {
            return !text && high == 1 && wide == 1;
        }

        boolean isSquare() {
            return high == wide;
        }

        /** The greatest of the numbers, as indexes: 0 for none, NONE if one is no index up to the limit. */
        int highestIndex(int limit) {
            int highest = 0;
            for (int i = 0; i < count(); i++) {
                if (!isWholeFrom(data[i], 1, limit)) {
                    return NONE;
                }
                highest = Math.max(highest, (int) data[i]);
            }
            return highest;
        }
    }

    /** A decimal, 0.d1 d2 .. times 10 to a power, with all the digits that a number can have. */
    private static final class Decimal {
        private static final int MOST_DIGITS = 800;
        private static final int MOST_SHIFT = 59;
        private final int[] digit = new int[MOST_DIGITS + 32];
        private int digits;
        private int point;
        private boolean cutOff;

        void begin() {
            digits = 0;
            point = 0;
            cutOff = false;
        }

        private void append(int d) {
            if (digits < MOST_DIGITS) {
                digit[digits] = d;
                digits++;
            } else if (d > 0) {
                cutOff = true;
            }
        }

        private void trim() {
            while (digits > 0 && digit[digits - 1] == 0) {
                digits--;
            }
            if (digits == 0) {
                point = 0;
            }
        }

        void copyOf(Decimal other, int most) {
            digits = Math.min(most, other.digits);
            point = other.point;
            cutOff = false;
            System.arraycopy(other.digit, 0, digit, 0, digits);
        }

        /** Becomes n times 2 to a power; n is not below 0. */
        void load(long n, int power) {
            cutOff = false;
            long rest = n;
            int shift = n == 0 ? 0 : power;
            for (int i = 0; i < 64 && shift < 0 && (rest & 1) == 0; i++) {
                rest = rest >> 1;
                shift++;
            }
            digits = 0;
            for (long part = rest; part > 0 && digits < 20; part = part / 10) {
                digits++;
            }
            for (int i = digits - 1; i >= 0; i--) {
                digit[i] = (int) (rest % 10);
                rest = rest / 10;
            }
            point = digits;
            trim();
            for (int i = 0; i < 64 && shift > 0; i++) {
                int step = Math.min(shift, MOST_SHIFT);
                multiply(step);
                shift -= step;
            }
            for (int i = 0; i < 64 && shift < 0; i++) {
                int step = Math.min(-shift, MOST_SHIFT);
                divide(step);
                shift += step;
            }
        }

        /** Times 2 to the power k, 1 to MOST_SHIFT. */
        private void multiply(int k) {
            if (digits == 0) {
                return;
            }
            // The product has up to 18 digits more; what of these stays 0 is taken away again.
            int more = 18;
            int length = digits + more;
            long carry = 0;
            for (int i = length - 1; i >= 0; i--) {
                carry += i >= more ? (long) digit[i - more] << k : 0;
                digit[i] = (int) (carry % 10);
                carry = carry / 10;
            }
            int zeros = 0;
            while (zeros < length && digit[zeros] == 0) {
                zeros++;
            }
            point += more - zeros;
            digits = Math.min(length - zeros, MOST_DIGITS);
            for (int i = zeros + digits; i < length; i++) {
                cutOff = cutOff || digit[i] > 0;
            }
            System.arraycopy(digit, zeros, digit, 0, digits);
            while (digits > 0 && digit[digits - 1] == 0) {
                digits--;
            }
        }

        /** Divided by 2 to the power k, 1 to MOST_SHIFT. */
        private void divide(int k) {
            if (digits == 0) {
                return;
            }
            long mask = (1L << k) - 1;
            long rest = 0;
            int from = 0;
            for (int i = 0; i < MOST_DIGITS + 64 && rest >> k == 0; i++) {
                rest = rest * 10 + (from < digits ? digit[from] : 0);
                from++;
            }
            point -= from - 1;
            int length = digits;
            digits = 0;
            for (int i = from; i < length + 64 && (i < length || rest > 0); i++) {
                int next = i < length ? digit[i] : 0;
                int d = (int) (rest >> k);
                if (digits < MOST_DIGITS) {
                    digit[digits] = d;
                    digits++;
                } else {
                    cutOff = cutOff || d > 0;
                }
                rest = (rest & mask) * 10 + next;
            }
            while (digits > 0 && digit[digits - 1] == 0) {
                digits--;
            }
        }

        /** Whether the nearest decimal with so many digits lies above; of two as near it is the even one. */
        private boolean isRoundedUp(int kept) {
            if (kept >= digits) {
                return false;
            }
            if (digit[kept] == 5 && kept + 1 == digits && !cutOff) {
                return kept > 0 && (digit[kept - 1] & 1) != 0;
            }
            return digit[kept] >= 5;
        }

        void round(int kept) {
            if (kept < 0) {
                begin();
            } else if (kept < digits) {
                if (isRoundedUp(kept)) {
                    raise(kept);
                } else {
                    digits = kept;
                    trim();
                }
            }
        }

        /** Becomes the next decimal with so many digits above. */
        void raise(int kept) {
            digits = Math.min(kept, digits);
            while (digits > 0 && digit[digits - 1] == 9) {
                digits--;
            }
            if (digits > 0) {
                digit[digits - 1]++;
            } else {
                digit[0] = 1;
                digits = 1;
                point++;
            }
        }

        /** Below 0, 0 or above 0, as this is below, the same as or above the other one; neither is 0. */
        int compareWith(Decimal other) {
            if (point != other.point) {
                return point < other.point ? -1 : 1;
            }
            for (int i = 0; i < digits && i < other.digits; i++) {
                if (digit[i] != other.digit[i]) {
                    return digit[i] < other.digit[i] ? -1 : 1;
                }
            }
            return Integer.compare(digits, other.digits);
        }

        /** Reads the numeral that stands there. */
        void read(char[] text, int from, int to) {
            begin();
            boolean behindPoint = false;
            int i = from;
            for (; i < to && text[i] != 'e'; i++) {
                if (text[i] == '.') {
                    behindPoint = true;
                } else {
                    boolean counts = digits > 0 || text[i] != '0';
                    if (counts) {
                        append(text[i] - '0');
                    }
                    if (counts && !behindPoint) {
                        point++;
                    } else if (!counts && behindPoint) {
                        point--;
                    }
                }
            }
            point += powerOf(text, i + 1, to);
            trim();
        }

        private static int powerOf(char[] text, int from, int to) {
            boolean below = from < to && text[from] == '-';
            int start = from < to && (below || text[from] == '+') ? from + 1 : from;
            int power = 0;
            for (int i = start; i < to; i++) {
                // Beyond a million no numeral that fits on a tape is a finite number but 0.
                power = Math.min(power * 10 + (text[i] - '0'), 1000000);
            }
            return below ? -power : power;
        }

        /** The number nearest to this, not finite if it is too large. */
        double nearest() {
            if (digits == 0 || point < -330) {
                return 0;
            }
            if (point > 310) {
                return scaled(1, 1023) * 2;
            }
            int tens = point - digits;
            // So few digits and so few tens are numbers themselves, and one operation rounds once.
            if (!cutOff && digits <= 15 && tens >= -22 && tens <= 22) {
                return nearestOfFew(tens);
            }
            int power = intoHalfToOne() - 1;
            if (power < -1022) {
                shrink(-1022 - power);
                power = -1022;
            }
            long m = roundedTimes53();
            if (power > 1023 || power == 1023 && m >= 1L << 53) {
                return scaled(1, 1023) * 2;
            }
            return scaled((double) m, power - 52);
        }

        private double nearestOfFew(int tens) {
            double whole = 0;
            for (int i = 0; i < digits; i++) {
                whole = whole * 10 + digit[i];
            }
            double scale = 1;
            for (int i = 0; i < Math.abs(tens); i++) {
                scale = scale * 10;
            }
            return tens < 0 ? whole / scale : whole * scale;
        }

        /** Divides by a power of two, such that this comes to lie from 1/2 to 1, and tells the power. */
        private int intoHalfToOne() {
            int power = 0;
            for (int i = 0; i < 2000 && point > 0; i++) {
                int step = Math.min(3 * point, MOST_SHIFT);
                divide(step);
                power += step;
            }
            for (int i = 0; i < 2000 && (point < 0 || digits > 0 && digit[0] < 5); i++) {
                int step = Math.min(Math.max(-3 * point, 1), MOST_SHIFT);
                multiply(step);
                power -= step;
            }
            return power;
        }

        private void shrink(int k) {
            int rest = k;
            for (int i = 0; i < 64 && rest > 0; i++) {
                int step = Math.min(rest, MOST_SHIFT);
                divide(step);
                rest -= step;
            }
        }

        /** The whole number nearest to 2^53 times this, which is below 1. */
        private long roundedTimes53() {
            multiply(53);
            boolean up = point >= 0 && isRoundedUp(point);
            long whole = 0;
            for (int i = 0; i < point && i < 18; i++) {
                whole = whole * 10 + (i < digits ? digit[i] : 0);
            }
            return up ? whole + 1 : whole;
        }
    }

    /** Cuts texts into tokens; keeps the names of all texts, each under its number. */
    private static final class Scanner {
        private static final int MOST_NAMES = 1000000;
        private static final int LONGEST_NAME = 255;
        private char[] pool = new char[512];
        private int[] first = new int[128];
        private int names;
        private int[] table = new int[256];
        private final Decimal decimal = new Decimal();

        Scanner() {
            internAll(WORDS);
            internAll(FUNCTIONS);
            internAll(MORE_FUNCTIONS);
        }

        private void internAll(String list) {
            char[] letters = list.toCharArray();
            int from = 0;
            for (int i = 0; i < letters.length; i++) {
                if (letters[i] == ' ') {
                    intern(letters, from, i);
                    from = i + 1;
                }
            }
        }

        /** Where in the table that name is, or would be. */
        private int slotOf(char[] text, int from, int to) {
            int mask = table.length - 1;
            int mixed = 0;
            for (int i = from; i < to; i++) {
                mixed = mixed * 31 + text[i];
            }
            int slot = (mixed ^ mixed >>> 15) & mask;
            for (int i = 0; i < table.length && table[slot] != 0; i++) {
                if (isName(table[slot] - 1, text, from, to)) {
                    return slot;
                }
                slot = slot + 1 & mask;
            }
            return slot;
        }

        private boolean isName(int name, char[] text, int from, int to) {
            if (first[name + 1] - first[name] != to - from) {
                return false;
            }
            for (int i = from; i < to; i++) {
                if (pool[first[name] + i - from] != text[i]) {
                    return false;
                }
            }
            return true;
        }

        /** The name's number; NONE if there is no room for another one. */
        private int intern(char[] text, int from, int to) {
            int slot = slotOf(text, from, to);
            if (table[slot] != 0) {
                return table[slot] - 1;
            }
            if (names >= MOST_NAMES) {
                return NONE;
            }
            int used = first[names];
            if (used + to - from > pool.length) {
                pool = Arrays.copyOf(pool, pool.length * 2);
            }
            System.arraycopy(text, from, pool, used, to - from);
            if (names + 1 >= first.length) {
                first = Arrays.copyOf(first, first.length * 2);
            }
            table[slot] = names + 1;
            names++;
            first[names] = used + to - from;
            if (names * 2 > table.length) {
                growTable();
            }
            return names - 1;
        }

        private void growTable() {
            table = new int[table.length * 2];
            for (int name = 0; name < names; name++) {
                table[slotOf(pool, first[name], first[name + 1])] = name + 1;
            }
        }

        /** The name that alone is on the tape; NONE if that is not so or it was never met. */
        int onlyName(char[] text, int length) {
            int from = behindBlanks(text, length, 0);
            if (from >= length || !isLetter(text[from])) {
                return NONE;
            }
            int to = behindName(text, length, from);
            if (to - from > LONGEST_NAME || behindBlanks(text, length, to) < length) {
                return NONE;
            }
            int name = table[slotOf(text, from, to)] - 1;
            return name < FIRST_FUNCTION ? NONE : name;
        }

        /** All tokens of the text, and behind them what is no token or the text's end. */
        void scan(Program p) {
            int at = 0;
            for (int i = 0; i <= MOST_TOKENS; i++) {
                at = behindBlanks(p.text, p.length, at);
                p.roomForToken();
                p.spot[p.tokens] = at;
                if (at >= p.length) {
                    p.kind[p.tokens] = T_OVER;
                    return;
                }
                int next = p.tokens < MOST_TOKENS ? token(p, at) : NONE;
                if (next < 0) {
                    p.kind[p.tokens] = T_BROKEN;
                    return;
                }
                p.tokens++;
                at = next;
            }
        }

        /** Looks at the token that begins there, and tells where it is over; NONE if there is none. */
        private int token(Program p, int at) {
            char c = p.text[at];
            if (isLetter(c)) {
                return name(p, at);
            }
            if (isDigit(c)) {
                return numeral(p, at);
            }
            if (c == '"') {
                return text(p, at);
            }
            char next = at + 1 < p.length ? p.text[at + 1] : ' ';
            int two = kindOfTwo(c, next);
            if (two != NONE) {
                p.kind[p.tokens] = two;
                return at + 2;
            }
            int one = kindOfOne(c);
            p.kind[p.tokens] = one;
            return one == NONE ? NONE : at + 1;
        }

        private int name(Program p, int at) {
            int to = behindName(p.text, p.length, at);
            int name = to - at > LONGEST_NAME ? NONE : intern(p.text, at, to);
            if (name < 0) {
                return NONE;
            }
            p.kind[p.tokens] = name < FIRST_FUNCTION ? T_IF + name : T_NAME;
            p.value[p.tokens] = name;
            return to;
        }

        private int numeral(Program p, int at) {
            int to = behindDigits(p.text, p.length, at);
            if (to + 1 < p.length && p.text[to] == '.' && isDigit(p.text[to + 1])) {
                to = behindDigits(p.text, p.length, to + 1);
            }
            if (to < p.length && p.text[to] == 'e') {
                boolean signed = to + 1 < p.length && (p.text[to + 1] == '+' || p.text[to + 1] == '-');
                int power = signed ? to + 2 : to + 1;
                to = power < p.length && isDigit(p.text[power]) ? behindDigits(p.text, p.length, power) : to;
            }
            decimal.read(p.text, at, to);
            double nearest = decimal.nearest();
            p.kind[p.tokens] = T_NUMERAL;
            p.value[p.tokens] = 0;
            p.numeral[p.tokens] = nearest;
            return isFinite(nearest) ? to : NONE;
        }

        private static int text(Program p, int at) {
            int to = at + 1;
            while (to < p.length && p.text[to] >= 32 && p.text[to] <= 126 && p.text[to] != '"') {
                to++;
            }
            if (to >= p.length || p.text[to] != '"' || to - at - 1 > MOST_NUMBERS) {
                return NONE;
            }
            p.kind[p.tokens] = T_TEXT;
            p.value[p.tokens] = to - at - 1;
            return to + 1;
        }

        private static int behindBlanks(char[] text, int length, int from) {
            boolean inComment = false;
            for (int i = from; i < length; i++) {
                char c = text[i];
                if (c == 10) {
                    inComment = false;
                } else if (c == '%') {
                    inComment = true;
                } else if (!inComment && c != 9 && c != 13 && c != 32) {
                    return i;
                }
            }
            return length;
        }

        private static int behindName(char[] text, int length, int from) {
            int to = from;
            while (to < length && (isLetter(text[to]) || isDigit(text[to]) || text[to] == '_')) {
                to++;
            }
            return to;
        }

        private static int behindDigits(char[] text, int length, int from) {
            int to = from;
            while (to < length && isDigit(text[to])) {
                to++;
            }
            return to;
        }

        private static boolean isLetter(char c) {
            return c >= 'a' && c <= 'z' || c >= 'A' && c <= 'Z';
        }

        private static boolean isDigit(char c) {
            return c >= '0' && c <= '9';
        }

        private static int kindOfTwo(char c, char next) {
            if (next == '=') {
                switch (c) {
                    case '=': return T_EQUAL;
                    case '~': return T_UNEQUAL;
                    case '<': return T_AT_MOST;
                    case '>': return T_AT_LEAST;
                    default: return NONE;
                }
            }
            if (c == '.') {
                switch (next) {
                    case '*': return T_DOT_TIMES;
                    case '/': return T_DOT_SLASH;
                    case '^': return T_DOT_POWER;
                    default: return NONE;
                }
            }
            if (c == next && c == '|') {
                return T_OR;
            }
            return c == next && c == '&' ? T_AND : NONE;
        }

        private static int kindOfOne(char c) {
            switch (c) {
                case '<': return T_BELOW;
                case '>': return T_ABOVE;
                case ':': return T_COLON;
                case '+': return T_PLUS;
                case '-': return T_MINUS;
                case '*': return T_TIMES;
                case '/': return T_SLASH;
                case '\\': return T_BACKSLASH;
                case '^': return T_POWER;
                case '\'': return T_QUOTE;
                case '~': return T_NOT;
                case '(': return T_ROUND;
                case ')': return T_UNROUND;
                case '[': return T_SQUARE;
                case ']': return T_UNSQUARE;
                case ',': return T_COMMA;
                case ';': return T_SEMICOLON;
                case '=': return T_IS;
                default: return NONE;
            }
        }
    }

    /** A text, its tokens, and what it was compiled to. */
    private static final class Program {
        private static final int CODE = 4;
        private static final int HEAD = 5;
        private char[] text = new char[256];
        private int length;
        private int tokens;
        private int[] kind = new int[64];
        private int[] spot = new int[64];
        private int[] value = new int[64];
        private double[] numeral = new double[64];
        /** Of each instruction: what it does, its token, and two numbers more. */
        private int[] code = new int[256];
        private int size;
        /** Of each function: its begin, its first parameter's token, how many, its results likewise. */
        private int[] head = new int[20];
        private int functions;
        private int[] functionOf = new int[128];

        void begin(char[] from, int count) {
            length = Math.min(count, from.length);
            int room = text.length;
            for (int i = 0; i < 20 && room < length; i++) {
                room = room * 2;
            }
            if (room > text.length) {
                text = new char[room];
            }
            System.arraycopy(from, 0, text, 0, length);
            tokens = 0;
            size = 0;
            functions = 0;
        }

        void roomForToken() {
            if (tokens >= kind.length) {
                kind = Arrays.copyOf(kind, tokens * 2);
                spot = Arrays.copyOf(spot, tokens * 2);
                value = Arrays.copyOf(value, tokens * 2);
                numeral = Arrays.copyOf(numeral, tokens * 2);
            }
        }

        void roomForNames(int names) {
            if (names > functionOf.length) {
                functionOf = new int[names * 2];
            }
            Arrays.fill(functionOf, 0);
        }

        int spotOf(int token) {
            return token < 0 || token > tokens ? NONE : spot[token];
        }

        int valueOf(int token) {
            return token < 0 || token >= tokens ? NONE : value[token];
        }

        double numeralOf(int token) {
            return token < 0 || token >= tokens ? 0 : numeral[token];
        }

        int kindOf(int token) {
            return token < 0 || token > tokens ? T_BROKEN : kind[token];
        }

        int emit(int what, int token, int a, int b) {
            if ((size + 1) * CODE > code.length) {
                code = Arrays.copyOf(code, code.length * 2);
            }
            int at = size * CODE;
            code[at] = what;
            code[at + 1] = token;
            code[at + 2] = a;
            code[at + 3] = b;
            size++;
            return size - 1;
        }

        private int codeAt(int i, int part) {
            return i < 0 || i >= size ? NONE : code[i * CODE + part];
        }

        int what(int i) {
            return codeAt(i, 0);
        }

        int tokenOf(int i) {
            return codeAt(i, 1);
        }

        int first(int i) {
            return codeAt(i, 2);
        }

        int second(int i) {
            return codeAt(i, 3);
        }

        void setWhat(int i, int what) {
            if (i >= 0 && i < size) {
                code[i * CODE] = what;
            }
        }

        void setFirst(int i, int a) {
            if (i >= 0 && i < size) {
                code[i * CODE + 2] = a;
            }
        }

        void setSecond(int i, int b) {
            if (i >= 0 && i < size) {
                code[i * CODE + 3] = b;
            }
        }

        void addFunction(int name, int parameter, int parameters, int result, int results) {
            if ((functions + 1) * HEAD > head.length) {
                head = Arrays.copyOf(head, head.length * 2);
            }
            int at = functions * HEAD;
            head[at] = size;
            head[at + 1] = parameter;
            head[at + 2] = parameters;
            head[at + 3] = result;
            head[at + 4] = results;
            functions++;
            if (name >= 0 && name < functionOf.length) {
                functionOf[name] = functions;
            }
        }

        /** The number of the text's function with that name, NONE if there is none. */
        int functionNamed(int name) {
            return name < 0 || name >= functionOf.length ? NONE : functionOf[name] - 1;
        }

        private int headAt(int function, int part) {
            return function < 0 || function >= functions ? NONE : head[function * HEAD + part];
        }

        int entryOf(int function) {
            return headAt(function, 0);
        }

        int parametersOf(int function) {
            return headAt(function, 2);
        }

        int resultsOf(int function) {
            return headAt(function, 4);
        }

        /** The name of parameter i, from 0; a comma stands between two. */
        int parameterName(int function, int i) {
            return valueOf(headAt(function, 1) + 2 * i);
        }

        int resultName(int function, int i) {
            return valueOf(headAt(function, 3) + 2 * i);
        }
    }

    /** Reads the tokens of a program one by one, by what may stand next, and compiles them. */
    private static final class Parser {
        private static final int S_STATEMENT = 0;
        private static final int S_WANT = 1;
        private static final int S_FIRST = 2;
        private static final int S_ARGUMENT = 3;
        private static final int S_BEHIND_POWER = 4;
        private static final int S_BEHIND_MINUS = 5;
        private static final int S_HAVE = 6;
        private static final int S_HAVE_NAME = 7;
        private static final int S_BEHIND_COLON = 8;
        private static final int S_SEMICOLON = 9;
        private static final int S_CONDITION = 10;
        private static final int S_FOR_OPEN = 11;
        private static final int S_FOR_NAME = 12;
        private static final int S_FOR_IS = 13;
        private static final int S_CALL_NAME = 14;
        private static final int S_CALL_OPEN = 15;
        private static final int S_HEAD = 16;
        private static final int S_HEAD_NAMED = 17;
        private static final int S_RESULT = 18;
        private static final int S_BEHIND_RESULT = 19;
        private static final int S_HEAD_IS = 20;
        private static final int S_HEAD_NAME = 21;
        private static final int S_HEAD_OPEN = 22;
        private static final int S_FIRST_PARAMETER = 23;
        private static final int S_PARAMETER = 24;
        private static final int S_BEHIND_PARAMETER = 25;

        private static final int BLOCK = 4;
        private static final int HEAD = 1;
        private static final int EXITS = 2;
        private static final int PENDING = 3;
        private static final int B_FUNCTION = 0;
        private static final int B_IF = 1;
        private static final int B_ELSE = 2;
        private static final int B_WHILE = 3;
        private static final int B_FOR = 4;
        private static final int B_TRY = 5;
        private static final int B_CATCH = 6;

        private static final int BRACKET = 7;
        private static final int BASE = 1;
        private static final int SIGNS = 2;
        private static final int TOKEN = 3;
        private static final int COUNT = 4;
        private static final int OPEN = 5;
        private static final int MARK = 6;
        private static final int X_STATEMENT = 0;
        private static final int X_ASSIGNMENT = 1;
        private static final int X_PRINT = 2;
        private static final int X_CONDITION = 3;
        private static final int X_FOR = 4;
        private static final int X_ROUND = 5;
        private static final int X_ARGUMENTS = 6;
        private static final int X_SQUARE = 7;
        private static final int X_CALL = 8;

        private static final int OPERATOR = 3;
        private static final int R_OR = 1;
        private static final int R_AND = 2;
        private static final int R_COMPARISON = 3;
        private static final int R_RANGE = 4;
        private static final int R_SUM = 5;
        private static final int R_PRODUCT = 6;
        private static final int R_SIGN = 7;
        private static final int R_POWER = 8;
        private static final int R_MINUS = 9;

        private Program p;
        private int at;
        private int state;
        private int levels;
        /** No fault of the statement stands before this token. */
        private int floor;
        private final int[] block = new int[(MOST_LEVELS + 4) * BLOCK];
        private int blocks;
        private final int[] bracket = new int[(MOST_LEVELS + 4) * BRACKET];
        private int brackets;
        private final int[] operator = new int[1024 * OPERATOR];
        private int operators;
        /** Where the instructions of the latest NAME, with its brackets, begin and are over. */
        private int loneFrom;
        private int loneTo;
        private boolean loneInRound;
        private int result;
        private int results;
        private int named;
        private int parameter;
        private int parameters;

        boolean parse(Program program) {
            begin(program);
            for (at = 0; at < p.tokens; at++) {
                int kind = p.kindOf(at);
                boolean stands;
                switch (state) {
                    case S_STATEMENT: stands = statement(kind); break;
                    case S_WANT: case S_FIRST: case S_ARGUMENT: case S_BEHIND_POWER: case S_BEHIND_MINUS:
                        stands = want(kind);
                        break;
                    case S_HAVE: case S_HAVE_NAME: stands = have(kind); break;
                    case S_BEHIND_COLON: stands = kind == T_COMMA ? comma() : kind == T_UNROUND && unround(); break;
                    case S_SEMICOLON: stands = kind == T_SEMICOLON && goOn(S_STATEMENT); break;
                    case S_CONDITION: stands = kind == T_ROUND && openBracket(X_CONDITION, S_WANT); break;
                    case S_FOR_OPEN: stands = kind == T_ROUND && openBracket(X_FOR, S_FOR_NAME); break;
                    case S_FOR_NAME: stands = kind == T_NAME && forName(); break;
                    case S_FOR_IS: stands = kind == T_IS && goOn(S_WANT); break;
                    case S_CALL_NAME: stands = kind == T_NAME && callName(); break;
                    case S_CALL_OPEN: stands = kind == T_ROUND && openBracket(X_CALL, S_FIRST); break;
                    default: stands = header(kind); break;
                }
                if (!stands) {
                    return false;
                }
            }
            p.emit(I_RETURN, 0, 0, 0);
            return p.kindOf(p.tokens) == T_OVER && state == S_STATEMENT && blocks == 0;
        }

        private void begin(Program program) {
            p = program;
            state = S_STATEMENT;
            levels = 0;
            floor = 0;
            blocks = 0;
            brackets = 0;
            operators = 0;
        }

        int faultToken() {
            return Math.min(Math.max(at, floor), p.tokens);
        }

        private boolean goOn(int next) {
            state = next;
            return true;
        }

        private boolean statement(int kind) {
            switch (kind) {
                case T_IF: return openBlock(B_IF, S_CONDITION);
                case T_WHILE: return openBlock(B_WHILE, S_CONDITION);
                case T_FOR: return openBlock(B_FOR, S_FOR_OPEN);
                case T_TRY: return openBlock(B_TRY, S_STATEMENT);
                case T_ELSEIF: case T_ELSE: return otherwise(kind);
                case T_CATCH: return catchBlock();
                case T_END: return endBlock();
                case T_BREAK: case T_CONTINUE: return leaveLoop(kind);
                case T_RETURN: return returnStatement();
                case T_FUNCTION: return blocks == 0 && openFunction();
                case T_SQUARE: return findTargets() ? openTargets() : plainStatement() && want(kind);
                case T_PRINT: case T_SHOW: return printStatement();
                default: return plainStatement() && want(kind);
            }
        }

        private boolean plainStatement() {
            p.emit(I_STEP, at, 0, 0);
            return pushBracket(X_STATEMENT, S_WANT);
        }

        private boolean printStatement() {
            p.emit(I_STEP, at, 0, 0);
            return pushBracket(X_PRINT, S_WANT);
        }

        private boolean returnStatement() {
            p.emit(I_STEP, at, 0, 0);
            p.emit(I_RETURN, at, 0, 0);
            return goOn(S_SEMICOLON);
        }

        /** Whether the '[' begins a statement that gives names values; otherwise an expression begins. */
        private boolean findTargets() {
            int next = at + 1;
            int targets = 0;
            boolean open = true;
            while (open && targets < MOST_OF_EACH && isTarget(next)) {
                targets++;
                open = p.kindOf(next + 1) == T_COMMA && targets < MOST_OF_EACH;
                next += open ? 2 : 1;
            }
            boolean closed = !open && p.kindOf(next) == T_UNSQUARE;
            result = at + 1;
            results = targets;
            floor = levels >= MOST_LEVELS ? at : closed ? next + 1 : next;
            return closed && p.kindOf(next + 1) == T_IS && levels < MOST_LEVELS;
        }

        /** Goes on behind the '='; what stands before it was looked at. */
        private boolean openTargets() {
            p.emit(I_STEP, at, 0, 0);
            at = floor;
            return goOn(S_CALL_NAME);
        }

        private boolean isTarget(int token) {
            return p.kindOf(token) == T_NAME || p.kindOf(token) == T_NOT;
        }

        private boolean callName() {
            named = p.emit(I_OPEN_CALL, at, 0, results);
            return goOn(S_CALL_OPEN);
        }

        private boolean forName() {
            setBracket(TOKEN, at);
            return goOn(S_FOR_IS);
        }

        // Blocks: statements up to an end.

        private boolean openBlock(int what, int next) {
            if (levels >= MOST_LEVELS) {
                return false;
            }
            levels++;
            p.emit(I_STEP, at, 0, 0);
            pushBlock(what);
            if (what == B_WHILE) {
                setBlock(HEAD, p.emit(I_ASK, at, 0, 0));
            } else if (what == B_TRY) {
                setBlock(PENDING, p.emit(I_TRY, at, 0, 0));
            } else {
                setBlock(HEAD, at);
            }
            return goOn(next);
        }

        private void pushBlock(int what) {
            int top = blocks * BLOCK;
            block[top] = what;
            block[top + HEAD] = NONE;
            block[top + EXITS] = NONE;
            block[top + PENDING] = NONE;
            blocks++;
        }

        private int blockOf(int what) {
            return blocks == 0 ? NONE : block[(blocks - 1) * BLOCK + what];
        }

        private void setBlock(int what, int number) {
            if (blocks > 0) {
                block[(blocks - 1) * BLOCK + what] = number;
            }
        }

        /** The jump there goes to the end of the block, once that is known; till then these jumps are a chain. */
        private void addExit(int jump, int index) {
            p.setFirst(jump, block[index * BLOCK + EXITS]);
            block[index * BLOCK + EXITS] = jump;
        }

        private boolean otherwise(int kind) {
            if (blockOf(0) != B_IF) {
                return false;
            }
            addExit(p.emit(I_JUMP, at, 0, 0), blocks - 1);
            p.setFirst(blockOf(PENDING), p.size);
            setBlock(PENDING, NONE);
            if (kind == T_ELSE) {
                setBlock(0, B_ELSE);
                state = S_STATEMENT;
            } else {
                state = S_CONDITION;
            }
            return true;
        }

        private boolean catchBlock() {
            if (blockOf(0) != B_TRY) {
                return false;
            }
            p.emit(I_UNTRY, at, 1, 0);
            addExit(p.emit(I_JUMP, at, 0, 0), blocks - 1);
            p.setFirst(blockOf(PENDING), p.size);
            setBlock(PENDING, NONE);
            setBlock(0, B_CATCH);
            return true;
        }

        private boolean endBlock() {
            int what = blockOf(0);
            if (blocks == 0 || what == B_TRY) {
                return false;
            }
            if (what == B_WHILE || what == B_FOR) {
                p.emit(I_JUMP, at, blockOf(HEAD), 0);
            } else if (what == B_FUNCTION) {
                p.emit(I_RETURN, at, 0, 0);
            }
            if (blockOf(PENDING) != NONE) {
                p.setFirst(blockOf(PENDING), p.size);
            }
            int exit = blockOf(EXITS);
            for (int i = 0; i < p.size && exit != NONE; i++) {
                int next = p.first(exit);
                p.setFirst(exit, p.size);
                exit = next;
            }
            if (what == B_FOR) {
                p.emit(I_DROP, at, 1, 0);
            }
            blocks--;
            levels--;
            return true;
        }

        private boolean leaveLoop(int kind) {
            int tries = 0;
            for (int i = blocks - 1; i >= 0; i--) {
                int what = block[i * BLOCK];
                if (what == B_TRY) {
                    tries++;
                } else if (what == B_WHILE || what == B_FOR) {
                    p.emit(I_STEP, at, 0, 0);
                    p.emit(I_UNTRY, at, tries, 0);
                    int jump = p.emit(I_JUMP, at, block[i * BLOCK + HEAD], 0);
                    if (kind == T_BREAK) {
                        addExit(jump, i);
                    }
                    return goOn(S_SEMICOLON);
                }
            }
            return false;
        }

        // Heads of functions.

        private boolean openFunction() {
            levels++;
            state = S_HEAD;
            result = at + 1;
            results = 0;
            parameters = 0;
            return true;
        }

        private boolean header(int kind) {
            switch (state) {
                case S_HEAD: return kind == T_SQUARE ? squareResults() : kind == T_NAME && headNamed();
                case S_HEAD_NAMED:
                    return kind == T_IS ? oneResult() : kind == T_ROUND && isNewFunction(named) && openHead();
                case S_RESULT: return kind == T_NAME && addResult();
                case S_BEHIND_RESULT: return kind == T_COMMA ? nextResult() : kind == T_UNSQUARE && goOn(S_HEAD_IS);
                case S_HEAD_IS: return kind == T_IS && goOn(S_HEAD_NAME);
                case S_HEAD_NAME: return kind == T_NAME && isNewFunction(at) && functionName();
                case S_HEAD_OPEN: return kind == T_ROUND && openHead();
                case S_FIRST_PARAMETER: return kind == T_UNROUND ? beginFunction() : kind == T_NAME && addParameter();
                case S_PARAMETER: return kind == T_NAME && addParameter();
                case S_BEHIND_PARAMETER:
                    return kind == T_COMMA ? nextParameter() : kind == T_UNROUND && beginFunction();
                default: return false;
            }
        }

        private boolean squareResults() {
            result = at + 1;
            return goOn(S_RESULT);
        }

        private boolean headNamed() {
            named = at;
            return goOn(S_HEAD_NAMED);
        }

        private boolean oneResult() {
            results = 1;
            return goOn(S_HEAD_NAME);
        }

        private boolean addResult() {
            if (isAmong(at, result, results)) {
                return false;
            }
            results++;
            return goOn(S_BEHIND_RESULT);
        }

        private boolean nextResult() {
            state = S_RESULT;
            return results < MOST_OF_EACH;
        }

        private boolean isNewFunction(int token) {
            return p.functionNamed(p.valueOf(token)) == NONE;
        }

        private boolean functionName() {
            named = at;
            return goOn(S_HEAD_OPEN);
        }

        private boolean openHead() {
            parameter = at + 1;
            return goOn(S_FIRST_PARAMETER);
        }

        private boolean addParameter() {
            if (isAmong(at, parameter, parameters)) {
                return false;
            }
            parameters++;
            return goOn(S_BEHIND_PARAMETER);
        }

        private boolean nextParameter() {
            state = S_PARAMETER;
            return parameters < MOST_OF_EACH;
        }

        /** Whether the NAME is one of so many that begin at that token, with commas between. */
        private boolean isAmong(int token, int first, int count) {
            for (int i = 0; i < count; i++) {
                if (p.valueOf(first + 2 * i) == p.valueOf(token)) {
                    return true;
                }
            }
            return false;
        }

        private boolean beginFunction() {
            pushBlock(B_FUNCTION);
            setBlock(PENDING, p.emit(I_JUMP, at, 0, 0));
            p.addFunction(p.valueOf(named), parameter, parameters, result, results);
            return goOn(S_STATEMENT);
        }

        // Expressions: values are wanted or there, with operators that wait for what stands behind them.

        private boolean pushBracket(int what, int next) {
            if (brackets >= MOST_LEVELS + 4) {
                return false;
            }
            int top = brackets * BRACKET;
            bracket[top] = what;
            bracket[top + BASE] = operators;
            bracket[top + SIGNS] = 0;
            bracket[top + TOKEN] = at;
            bracket[top + COUNT] = 0;
            bracket[top + OPEN] = p.size;
            bracket[top + MARK] = 0;
            brackets++;
            state = next;
            return true;
        }

        private boolean openBracket(int what, int next) {
            if (levels >= MOST_LEVELS) {
                return false;
            }
            levels++;
            return pushBracket(what, next);
        }

        private void popBracket() {
            brackets--;
            levels--;
            state = S_HAVE;
        }

        private int bracketOf(int what) {
            return brackets == 0 ? NONE : bracket[(brackets - 1) * BRACKET + what];
        }

        private void setBracket(int what, int number) {
            if (brackets > 0) {
                bracket[(brackets - 1) * BRACKET + what] = number;
            }
        }

        private boolean want(int kind) {
            switch (kind) {
                case T_NUMERAL: return item(I_NUMBER, S_HAVE);
                case T_TEXT: return item(I_TEXT, S_HAVE);
                case T_NAME: return item(I_NAME, S_HAVE_NAME);
                case T_ROUND: return openBracket(X_ROUND, S_WANT);
                case T_SQUARE: return openBracket(X_SQUARE, S_FIRST);
                case T_END: return endItem();
                case T_MINUS: case T_PLUS: case T_NOT: return sign(kind);
                case T_COLON: return colonArgument();
                case T_UNROUND: return state == S_FIRST && bracketOf(0) != X_SQUARE && unround();
                case T_UNSQUARE: return state == S_FIRST && bracketOf(0) == X_SQUARE && nothing();
                default: return false;
            }
        }

        private boolean item(int what, int next) {
            loneFrom = p.emit(what, at, 0, 1);
            loneTo = p.size;
            loneInRound = false;
            return goOn(next);
        }

        private boolean sign(int kind) {
            if (state == S_BEHIND_MINUS || state == S_BEHIND_POWER && kind != T_MINUS) {
                return false;
            }
            if (state == S_BEHIND_POWER) {
                state = S_BEHIND_MINUS;
                return pushOperator(R_MINUS, 0);
            }
            if (levels >= MOST_LEVELS) {
                return false;
            }
            levels++;
            setBracket(SIGNS, bracketOf(SIGNS) + 1);
            state = S_WANT;
            return pushOperator(R_SIGN, 0);
        }

        private boolean pushOperator(int rank, int note) {
            int top = operators * OPERATOR;
            if (top + OPERATOR > operator.length) {
                return false;
            }
            operator[top] = at;
            operator[top + 1] = rank;
            operator[top + 2] = note;
            operators++;
            return true;
        }

        /** The nearest NAME with brackets in which the token stands, as a bracket's number. */
        private int nearestArguments() {
            for (int i = brackets - 1; i >= 0; i--) {
                int what = bracket[i * BRACKET];
                if (what == X_ARGUMENTS) {
                    return i;
                }
                if (what != X_ROUND && what != X_SQUARE) {
                    return NONE;
                }
            }
            return NONE;
        }

        private boolean endItem() {
            int i = nearestArguments();
            if (i == NONE || bracket[i * BRACKET + COUNT] > 1) {
                return false;
            }
            bracket[i * BRACKET + MARK] |= 4;
            p.emit(I_END, at, bracket[i * BRACKET + OPEN], bracket[i * BRACKET + COUNT]);
            return goOn(S_HAVE);
        }

        private boolean colonArgument() {
            boolean whole = state == S_FIRST || state == S_ARGUMENT;
            if (!whole || bracketOf(0) != X_ARGUMENTS || bracketOf(COUNT) > 1) {
                return false;
            }
            setBracket(MARK, bracketOf(MARK) | 1 << bracketOf(COUNT));
            p.emit(I_COLON, at, bracketOf(OPEN), 0);
            return goOn(S_BEHIND_COLON);
        }

        private boolean nothing() {
            p.emit(I_NOTHING, bracketOf(TOKEN), 0, 0);
            popBracket();
            return true;
        }

        private boolean have(int kind) {
            if (kind == T_QUOTE) {
                p.emit(I_SIGN, at, 0, 0);
                return goOn(S_HAVE);
            }
            if (kind == T_ROUND) {
                return state == S_HAVE_NAME && openArguments();
            }
            levels -= bracketOf(SIGNS);
            setBracket(SIGNS, 0);
            switch (kind) {
                case T_COLON: return range();
                case T_COMMA: return comma();
                case T_SEMICOLON: return semicolon();
                case T_UNROUND: return unround();
                case T_UNSQUARE: return unsquare();
                case T_IS: return assignment();
                default: return operation(kind);
            }
        }

        private boolean openArguments() {
            int open = p.size - 1;
            if (!openBracket(X_ARGUMENTS, S_FIRST)) {
                return false;
            }
            p.setWhat(open, I_OPEN);
            setBracket(OPEN, open);
            setBracket(TOKEN, p.tokenOf(open));
            return true;
        }

        private static int rankOf(int kind) {
            switch (kind) {
                case T_OR: return R_OR;
                case T_AND: return R_AND;
                case T_EQUAL: case T_UNEQUAL: case T_AT_MOST: case T_AT_LEAST: case T_BELOW: case T_ABOVE:
                    return R_COMPARISON;
                case T_PLUS: case T_MINUS: return R_SUM;
                case T_TIMES: case T_SLASH: case T_BACKSLASH: case T_DOT_TIMES: case T_DOT_SLASH: return R_PRODUCT;
                case T_POWER: case T_DOT_POWER: return R_POWER;
                default: return NONE;
            }
        }

        private boolean operation(int kind) {
            int rank = rankOf(kind);
            if (rank == NONE) {
                return false;
            }
            finishOperators(rank);
            int test = rank <= R_AND ? p.emit(I_TEST, at, 0, 0) : 0;
            state = rank == R_POWER ? S_BEHIND_POWER : S_WANT;
            return pushOperator(rank, test);
        }

        private boolean range() {
            finishOperators(R_SUM);
            state = S_WANT;
            int top = (operators - 1) * OPERATOR;
            if (operators == bracketOf(BASE) || operator[top + 1] != R_RANGE) {
                return pushOperator(R_RANGE, 2);
            }
            operator[top + 2]++;
            return operator[top + 2] == 3;
        }

        /** Operators of that rank and above have all that they work on, up to the bracket's begin. */
        private void finishOperators(int rank) {
            while (operators > bracketOf(BASE) && operator[operators * OPERATOR - 2] >= rank) {
                operators--;
                int token = operator[operators * OPERATOR];
                int note = operator[operators * OPERATOR + 2];
                switch (operator[operators * OPERATOR + 1]) {
                    case R_SIGN: case R_MINUS:
                        p.emit(I_SIGN, token, 0, 0);
                        break;
                    case R_RANGE:
                        p.emit(I_RANGE, token, note, 0);
                        break;
                    case R_OR: case R_AND:
                        p.emit(I_TRUTH, token, 0, 0);
                        p.setFirst(note, p.size);
                        break;
                    default:
                        p.emit(I_PAIR, token, 0, 0);
                        break;
                }
            }
        }

        private boolean comma() {
            finishOperators(0);
            int count = bracketOf(COUNT) + 1;
            boolean first = count == 1;
            state = S_WANT;
            switch (bracketOf(0)) {
                case X_ARGUMENTS:
                    state = S_ARGUMENT;
                    if (count == 2 && bracketOf(MARK) != 0) {
                        return false;
                    }
                    break;
                case X_CALL: case X_PRINT:
                    break;
                case X_SQUARE:
                    p.emit(I_VALUE, bracketOf(TOKEN), first ? 1 : 0, 0);
                    setBracket(COUNT, count);
                    return true;
                default:
                    return false;
            }
            setBracket(COUNT, count);
            return count < MOST_OF_EACH;
        }

        private boolean semicolon() {
            int what = bracketOf(0);
            if (what == X_SQUARE) {
                finishRow();
                return goOn(S_WANT);
            }
            if (what != X_STATEMENT && what != X_ASSIGNMENT && what != X_PRINT) {
                return false;
            }
            if (what == X_STATEMENT) {
                finishPlain();
            } else if (what == X_PRINT) {
                finishOperators(0);
                p.emit(I_PRINT, bracketOf(TOKEN), bracketOf(COUNT) + 1, 0);
            } else {
                finishAssignment();
            }
            brackets--;
            return goOn(S_STATEMENT);
        }

        private void finishRow() {
            finishOperators(0);
            p.emit(I_VALUE, bracketOf(TOKEN), bracketOf(COUNT) == 0 ? 1 : 0, 0);
            p.emit(I_ROW, bracketOf(TOKEN), bracketOf(MARK) == 0 ? 1 : 0, 0);
            setBracket(COUNT, 0);
            setBracket(MARK, 1);
        }

        /** Whether all since the bracket's begin is one NAME, perhaps with brackets. */
        private boolean isLone() {
            int last = p.size - 1;
            return operators == bracketOf(BASE) && loneFrom == bracketOf(OPEN) && loneTo == p.size
                && (p.what(last) == I_NAME || p.what(last) == I_CLOSE);
        }

        /** What a call alone would give is not asked for. */
        private void finishPlain() {
            if (!isLone()) {
                finishOperators(0);
                p.emit(I_DROP, at, 1, 0);
            } else {
                p.setSecond(loneFrom, p.second(loneFrom) & ~1);
            }
        }

        private boolean assignment() {
            if (bracketOf(0) != X_STATEMENT || !isLone() || loneInRound) {
                return false;
            }
            int last = p.size - 1;
            if (p.what(last) == I_CLOSE) {
                int count = p.first(loneFrom);
                if (count < 1 || count > 2) {
                    return false;
                }
                p.setWhat(loneFrom, I_OPEN_PART);
                setBracket(MARK, at);
            } else {
                setBracket(MARK, NONE);
            }
            p.size = last;
            setBracket(0, X_ASSIGNMENT);
            return goOn(S_WANT);
        }

        private void finishAssignment() {
            finishOperators(0);
            int open = bracketOf(OPEN);
            if (bracketOf(MARK) == NONE) {
                p.emit(I_STORE, bracketOf(TOKEN), 0, 0);
            } else {
                p.emit(I_WRITE, p.tokenOf(open), open, bracketOf(MARK));
            }
        }

        private boolean unround() {
            finishOperators(0);
            switch (bracketOf(0)) {
                case X_ROUND:
                    loneInRound = true;
                    popBracket();
                    return true;
                case X_ARGUMENTS:
                    closeArguments();
                    return true;
                case X_CALL:
                    closeCall();
                    return true;
                case X_CONDITION:
                    closeCondition();
                    return true;
                case X_FOR:
                    closeFor();
                    return true;
                default:
                    return false;
            }
        }

        /** How many values the bracket that closes now has; none if it closes where the first one was wanted. */
        private int countAtClose() {
            return state == S_FIRST ? 0 : bracketOf(COUNT) + 1;
        }

        private void closeArguments() {
            int open = bracketOf(OPEN);
            p.setFirst(open, countAtClose());
            p.setSecond(open, 1 | (bracketOf(MARK) & 3) << 4);
            p.emit(I_CLOSE, bracketOf(TOKEN), open, 0);
            popBracket();
            loneFrom = open;
            loneTo = p.size;
            loneInRound = false;
        }

        private void closeCall() {
            p.setFirst(named, countAtClose());
            p.emit(I_CLOSE_CALL, p.tokenOf(named), named, 0);
            for (int i = 0; i < results; i++) {
                if (p.kindOf(result + 2 * i) == T_NAME) {
                    p.emit(I_KEEP, result + 2 * i, results - i, 0);
                }
            }
            p.emit(I_DROP, at, results, 0);
            popBracket();
            state = S_SEMICOLON;
        }

        private void closeCondition() {
            int jump = p.emit(I_JUMP_UNLESS, at, 0, 0);
            popBracket();
            state = S_STATEMENT;
            if (blockOf(0) == B_WHILE) {
                addExit(jump, blocks - 1);
            } else {
                setBlock(PENDING, jump);
            }
        }

        private void closeFor() {
            int word = blockOf(HEAD);
            p.emit(I_FOR, word, 0, 0);
            int turn = p.emit(I_TURN, word, 0, bracketOf(TOKEN));
            addExit(turn, blocks - 1);
            setBlock(HEAD, turn);
            popBracket();
            state = S_STATEMENT;
        }

        private boolean unsquare() {
            if (bracketOf(0) != X_SQUARE) {
                return false;
            }
            finishRow();
            p.emit(I_SQUARE, bracketOf(TOKEN), 0, 0);
            popBracket();
            return true;
        }
    }

    /** The values that wait, the latest one on top, all numbers in one row. */
    private static final class Stack {
        private double[] data = new double[256];
        private final int[] start = new int[MOST_WAITING + 1];
        private final boolean[] text = new boolean[MOST_WAITING];
        private final int[] high = new int[MOST_WAITING];
        private final int[] wide = new int[MOST_WAITING];
        /** Of the matrix of a for: how many columns were taken. */
        private final int[] turn = new int[MOST_WAITING];
        private int size;
        private final Value mixed = new Value();

        /** Whether there was room for it. */
        boolean push(boolean isText, int rowCount, int columnCount, double[] from, int at) {
            int count = rowCount * columnCount;
            if (size >= MOST_WAITING || start[size] + count > MOST_KEPT) {
                return false;
            }
            makeRoom(start[size] + count);
            System.arraycopy(from, at, data, start[size], count);
            text[size] = isText;
            high[size] = rowCount;
            wide[size] = columnCount;
            turn[size] = 0;
            size++;
            start[size] = start[size - 1] + count;
            return true;
        }

        private void makeRoom(int count) {
            int room = data.length;
            for (int i = 0; i < 20 && room < count; i++) {
                room = room * 2;
            }
            if (room > data.length) {
                data = Arrays.copyOf(data, room);
            }
        }

        boolean pushValue(Value v) {
            return push(v.text, v.high, v.wide, v.data, 0);
        }

        boolean pushNumber(double number) {
            mixed.becomeNumber(number);
            return pushValue(mixed);
        }

        void pop(Value v) {
            if (size > 0) {
                size--;
                v.shape(text[size], high[size], wide[size]);
                System.arraycopy(data, start[size], v.data, 0, v.count());
            }
        }

        void drop(int count) {
            size = Math.max(size - count, 0);
        }

        int countOf(int i) {
            return i < 0 || i >= size ? 0 : start[i + 1] - start[i];
        }

        boolean isBare(int i) {
            return i >= 0 && i < size && !text[i] && start[i + 1] == start[i];
        }

        boolean isTrue(int i) {
            if (i < 0 || i >= size || text[i] || start[i + 1] == start[i]) {
                return false;
            }
            for (int k = start[i]; k < start[i + 1]; k++) {
                if (data[k] == 0) {
                    return false;
                }
            }
            return true;
        }

        /** What is without numbers is left out of a row, whatever its shape. */
        void levelTop() {
            if (isBare(size - 1)) {
                high[size - 1] = 0;
                wide[size - 1] = 0;
            }
        }

        int faultBeside() {
            int a = size - 2;
            int b = size - 1;
            if (a < 0 || isBare(a) || isBare(b)) {
                return 0;
            }
            if (text[a] != text[b]) {
                return BAD_KIND;
            }
            boolean fits = high[a] == high[b] && countOf(a) + countOf(b) <= MOST_NUMBERS;
            return fits ? 0 : BAD_SHAPE;
        }

        int faultBelow() {
            int a = size - 2;
            int b = size - 1;
            if (a < 0 || isBare(a) || isBare(b)) {
                return 0;
            }
            if (text[a] || text[b]) {
                return BAD_KIND;
            }
            boolean fits = wide[a] == wide[b] && countOf(a) + countOf(b) <= MOST_NUMBERS;
            return fits ? 0 : BAD_SHAPE;
        }

        /** The two values on top become one beside the other. */
        void joinBeside() {
            int a = size - 2;
            int b = size - 1;
            if (a < 0) {
                return;
            }
            if (isBare(a) || isBare(b)) {
                joinBare(a, b);
            } else if (high[a] == 1) {
                merge(a, 1, wide[a] + wide[b]);
            } else {
                mix(a, b);
                merge(a, high[a], wide[a] + wide[b]);
            }
        }

        void joinBelow() {
            int a = size - 2;
            int b = size - 1;
            if (a < 0) {
                return;
            }
            if (isBare(a) || isBare(b)) {
                joinBare(a, b);
            } else {
                merge(a, high[a] + high[b], wide[a]);
            }
        }

        private void joinBare(int a, int b) {
            if (isBare(b)) {
                size--;
            } else {
                text[a] = text[b];
                merge(a, high[b], wide[b]);
            }
        }

        private void merge(int a, int rowCount, int columnCount) {
            high[a] = rowCount;
            wide[a] = columnCount;
            start[a + 1] = start[a + 2];
            size--;
        }

        /** The rows of both, each one behind the other's. */
        private void mix(int a, int b) {
            int w = wide[a] + wide[b];
            mixed.shape(false, high[a], w);
            for (int i = 0; i < high[a]; i++) {
                System.arraycopy(data, start[a] + i * wide[a], mixed.data, i * w, wide[a]);
                System.arraycopy(data, start[b] + i * wide[b], mixed.data, i * w + wide[a], wide[b]);
            }
            System.arraycopy(mixed.data, 0, data, start[a], high[a] * w);
        }
    }

    /** The values that names have, in the workspace and in the frames of calls above it. */
    private static final class Store {
        private static final int CELL = 6;
        private static final int OLDER = 1;
        private static final int TEXT = 2;
        private static final int HIGH = 3;
        private static final int WIDE = 4;
        private static final int START = 5;
        /** Of each value: its name, this name's cell in a lower frame, whether it is a text, its shape, its start. */
        private int[] cell = new int[32 * CELL];
        private int cells;
        /** By name: the cell of its highest frame, and 1 more. */
        private int[] newest = new int[128];
        private final int[] base = new int[MOST_FRAMES + 2];
        private int depth;
        private double[] data = new double[256];
        private double[] spare = new double[256];
        private int used;
        private int kept;

        /** The name's cell in the highest frame; NONE if it has no value there. */
        int find(int name) {
            if (name < 0 || name >= newest.length || newest[name] - 1 < base[depth]) {
                return NONE;
            }
            return newest[name] - 1;
        }

        private int cellAt(int c, int part) {
            return c < 0 || c >= cells ? 0 : cell[c * CELL + part];
        }

        boolean isText(int c) {
            return cellAt(c, TEXT) != 0;
        }

        int highOf(int c) {
            return cellAt(c, HIGH);
        }

        int wideOf(int c) {
            return cellAt(c, WIDE);
        }

        int startOf(int c) {
            return cellAt(c, START);
        }

        int countOf(int c) {
            return c < 0 || c >= cells ? 0 : cell[c * CELL + HIGH] * cell[c * CELL + WIDE];
        }

        void copy(int c, Value v) {
            v.shape(isText(c), highOf(c), wideOf(c));
            System.arraycopy(data, startOf(c), v.data, 0, v.count());
        }

        boolean pushOn(Stack stack, int c) {
            return stack.push(isText(c), highOf(c), wideOf(c), data, startOf(c));
        }

        boolean putValue(int name, Value v) {
            return put(name, v.text, v.high, v.wide, v.data, 0);
        }

        boolean putWaiting(int name, Stack stack, int i) {
            return put(name, stack.text[i], stack.high[i], stack.wide[i], stack.data, stack.start[i]);
        }

        /** The name gets that value in the highest frame, if there is room for it. */
        private boolean put(int name, boolean isText, int rowCount, int columnCount, double[] from, int at) {
            int found = find(name);
            int former = found < 0 ? 0 : countOf(found);
            int count = rowCount * columnCount;
            if (name < 0 || kept - former + count > MOST_KEPT || found < 0 && cells >= MOST_NAMED) {
                return false;
            }
            int c = found < 0 ? addCell(name) : found;
            kept += count - former;
            if (count != former) {
                cell[c * CELL + HIGH] = 0;
                makeRoom(count);
                cell[c * CELL + START] = used;
                used += count;
            }
            cell[c * CELL + TEXT] = isText ? 1 : 0;
            cell[c * CELL + HIGH] = rowCount;
            cell[c * CELL + WIDE] = columnCount;
            System.arraycopy(from, at, data, cell[c * CELL + START], count);
            return true;
        }

        private int addCell(int name) {
            if ((cells + 1) * CELL > cell.length) {
                cell = Arrays.copyOf(cell, cell.length * 2);
            }
            int room = newest.length;
            for (int i = 0; i < 30 && room <= name; i++) {
                room = room * 2;
            }
            if (room > newest.length) {
                newest = Arrays.copyOf(newest, room);
            }
            int at = cells * CELL;
            cell[at] = name;
            cell[at + OLDER] = newest[name];
            cell[at + HIGH] = 0;
            cell[at + WIDE] = 0;
            cell[at + START] = used;
            cells++;
            newest[name] = cells;
            return cells - 1;
        }

        /** Room for so many numbers behind the used ones; what names have no longer goes, if there is too little. */
        private void makeRoom(int count) {
            if (used + count <= data.length) {
                return;
            }
            int room = spare.length;
            for (int i = 0; i < 20 && room < 2 * kept && room < 2 * MOST_KEPT; i++) {
                room = room * 2;
            }
            if (room > spare.length) {
                spare = new double[room];
            }
            int to = 0;
            for (int c = 0; c < cells; c++) {
                int length = countOf(c);
                System.arraycopy(data, cell[c * CELL + START], spare, to, length);
                cell[c * CELL + START] = to;
                to += length;
            }
            double[] former = data;
            data = spare;
            spare = former;
            used = to;
        }

        void enter() {
            if (depth < MOST_FRAMES) {
                depth++;
                base[depth] = cells;
            }
        }

        /** The frames above that one are gone, and all values in them. */
        void unwind(int toDepth) {
            if (toDepth >= 0 && toDepth < depth) {
                forgetFrom(base[toDepth + 1]);
                depth = toDepth;
            }
        }

        private void forgetFrom(int lowest) {
            while (cells > lowest) {
                kept -= countOf(cells - 1);
                cells--;
                newest[cell[cells * CELL]] = cell[cells * CELL + OLDER];
            }
        }

        /** All values are gone: how many there were. */
        int wipe() {
            int gone = cells;
            unwind(0);
            forgetFrom(0);
            used = 0;
            return gone;
        }
    }

    /** The output, and how numbers are written. */
    private static final class Output {
        private static final int DIGITS_OF_LINES = 5;
        private char[] out = new char[256];
        private int length;
        private boolean full;
        /** The text of one number. */
        private final char[] line = new char[64];
        private int lineLength;
        private final Decimal decimal = new Decimal();
        private final Decimal low = new Decimal();
        private final Decimal top = new Decimal();
        private final Decimal near = new Decimal();
        /** Of each column: how many places behind the point, NONE if it is scientific; and how wide it is. */
        private int[] places = new int[16];
        private int[] widths = new int[16];

        private void put(char c) {
            if (length >= MOST_CHARACTERS) {
                full = true;
                return;
            }
            if (length >= out.length) {
                out = Arrays.copyOf(out, out.length * 2);
            }
            out[length] = c;
            length++;
        }

        private void putLine() {
            for (int i = 0; i < lineLength; i++) {
                put(line[i]);
            }
        }

        private void putText(double[] data, int start, int count) {
            for (int i = 0; i < count; i++) {
                put((char) (int) data[start + i]);
            }
        }

        /** What waits there comes as print writes it. */
        void printValue(Stack stack, int i) {
            if (stack.text[i]) {
                putText(stack.data, stack.start[i], stack.countOf(i));
                return;
            }
            boolean alone = stack.high[i] == 1 && stack.wide[i] == 1;
            if (!alone) {
                put('[');
            }
            for (int k = 0; k < stack.high[i] * Math.max(stack.wide[i], 1) && !full; k++) {
                int column = stack.wide[i] == 0 ? 0 : k % stack.wide[i];
                if (k > 0) {
                    put(column == 0 ? ';' : ',');
                    put(' ');
                }
                if (stack.wide[i] > 0) {
                    brief(stack.data[stack.start[i] + k]);
                    putLine();
                }
            }
            if (!alone) {
                put(']');
            }
        }

        /** The matrix that waits there comes in its LINES. */
        void showMatrix(Stack stack, int value) {
            double[] data = stack.data;
            int start = stack.start[value];
            int high = stack.high[value];
            int wide = stack.wide[value];
            int room = places.length;
            for (int i = 0; i < 20 && room < wide; i++) {
                room = room * 2;
            }
            if (room > places.length) {
                places = new int[room];
                widths = new int[room];
            }
            for (int j = 0; j < wide && high > 0; j++) {
                measure(data, start + j, high, wide, j);
            }
            for (int i = 0; i < high && !full; i++) {
                for (int j = 0; j < wide && !full; j++) {
                    align(data[start + i * wide + j], places[j]);
                    int blanks = widths[j] - lineLength + (j > 0 ? 2 : 0);
                    for (int k = 0; k < blanks; k++) {
                        put(' ');
                    }
                    putLine();
                }
                put((char) 10);
            }
        }

        private void measure(double[] data, int start, int high, int wide, int column) {
            int most = 0;
            for (int i = 0; i < high && most >= 0; i++) {
                double x = data[start + i * wide];
                if (x != 0) {
                    int exponent = exponentOf(sizeOf(x));
                    decimal.load((long) scaled(sizeOf(x), -exponent), exponent);
                    decimal.round(DIGITS_OF_LINES);
                    boolean plain = decimal.point >= -3 && decimal.point <= 16;
                    most = plain ? Math.max(most, decimal.digits - decimal.point) : NONE;
                }
            }
            places[column] = most;
            widths[column] = 0;
            for (int i = 0; i < high; i++) {
                align(data[start + i * wide], most);
                widths[column] = Math.max(widths[column], lineLength);
            }
        }

        private void add(char c) {
            if (lineLength < line.length) {
                line[lineLength] = c;
                lineLength++;
            }
        }

        private void addDigit(int i) {
            if (lineLength < line.length) {
                line[lineLength] = (char) ('0' + (i >= 0 && i < decimal.digits ? decimal.digit[i] : 0));
                lineLength++;
            }
        }

        /** The number with so many places behind the point, or with five digits if these are NONE. */
        private void align(double x, int behind) {
            lineLength = 0;
            if (x < 0) {
                add('-');
            }
            int exponent = exponentOf(sizeOf(x));
            decimal.load((long) scaled(sizeOf(x), -exponent), exponent);
            if (behind == NONE) {
                if (x == 0) {
                    add('0');
                } else {
                    decimal.round(DIGITS_OF_LINES);
                    addScientific(DIGITS_OF_LINES);
                }
                return;
            }
            decimal.round(decimal.point + behind);
            addPlain(behind);
        }

        private void addPlain(int behind) {
            int point = decimal.point;
            for (int i = 0; i < point; i++) {
                addDigit(i);
            }
            if (point <= 0) {
                add('0');
            }
            if (behind > 0) {
                add('.');
            }
            for (int i = 0; i < behind; i++) {
                addDigit(point + i);
            }
        }

        private void addScientific(int digits) {
            addDigit(0);
            if (digits > 1) {
                add('.');
            }
            for (int i = 1; i < digits; i++) {
                addDigit(i);
            }
            add('e');
            int power = decimal.point - 1;
            if (power < 0) {
                add('-');
                power = -power;
            }
            if (power >= 100) {
                add((char) ('0' + power / 100));
            }
            if (power >= 10) {
                add((char) ('0' + power / 10 % 10));
            }
            add((char) ('0' + power % 10));
        }

        /** The SHORT text of the number comes to stand in the line. */
        void brief(double x) {
            lineLength = 0;
            if (x < 0) {
                add('-');
            }
            shorten(sizeOf(x));
            int point = decimal.point;
            if (decimal.digits == 0) {
                add('0');
            } else if (point < -3 || point > 16) {
                addScientific(decimal.digits);
            } else {
                addPlain(Math.max(decimal.digits - point, 0));
            }
        }

        /** The decimal becomes that with the fewest digits which is read as the number, of these the nearest. */
        private void shorten(double size) {
            int exponent = exponentOf(size);
            long m = (long) scaled(size, -exponent);
            decimal.load(m, exponent);
            if (size < 9007199254740992.0 && isWhole(size)) {
                return;
            }
            boolean even = (m & 1) == 0;
            boolean lowest = m == 1L << 52 && exponent > -1074;
            low.load(lowest ? 4 * m - 1 : 2 * m - 1, lowest ? exponent - 2 : exponent - 1);
            top.load(2 * m + 1, exponent - 1);
            for (int n = 1; n < 18 && n < decimal.digits; n++) {
                near.copyOf(decimal, n);
                near.trim();
                int down = near.compareWith(low);
                near.copyOf(decimal, n);
                near.raise(n);
                int up = near.compareWith(top);
                boolean downReads = down > 0 || even && down == 0;
                boolean upReads = up < 0 || even && up == 0;
                if (downReads && upReads) {
                    decimal.round(n);
                } else if (upReads) {
                    decimal.raise(n);
                } else if (downReads) {
                    decimal.digits = n;
                    decimal.trim();
                }
                if (downReads || upReads) {
                    return;
                }
            }
        }
    }

    /** Operations and bench functions but for those that solve: what is wrong with their values, cost, work. */
    private static final class Functions {
        private static final int M_EACH = 0;
        private static final int M_TEXTS = 1;
        private static final int M_PRODUCT = 2;
        private static final int M_DIVIDE = 3;
        private static final int M_DIVIDE_BACK = 4;
        private static final int M_POWER = 5;
        private final Value[] in;
        private final Value[] res;
        /** Of the operation of two that was looked at latest: how it is done. */
        private int mode;
        private int cost;
        private long high;
        private long wide;
        private int[] order = new int[16];
        private int[] other = new int[16];

        Functions(Value[] arguments, Value[] results) {
            in = arguments;
            res = results;
        }

        private int shapeOf(long rowCount, long columnCount) {
            high = rowCount;
            wide = columnCount;
            if (high > MOST_NUMBERS || wide > MOST_NUMBERS || high * wide > MOST_NUMBERS) {
                return BAD_SHAPE;
            }
            cost = (int) (high * wide) / 32;
            return 0;
        }

        // Operations of two.

        /** The fault that the operation has by its two values' kinds and shapes, and its cost beyond 1. */
        int checkPair(int kind) {
            Value x = in[0];
            Value y = in[1];
            mode = M_EACH;
            if (x.text || y.text) {
                boolean texts = x.text && y.text && (kind == T_EQUAL || kind == T_UNEQUAL);
                mode = M_TEXTS;
                return texts ? shapeOf(1, 1) : BAD_KIND;
            }
            boolean single = x.isNumber() || y.isNumber();
            switch (kind) {
                case T_TIMES:
                    return single ? checkEach() : checkProduct(x, y);
                case T_SLASH:
                    return y.isNumber() ? checkEach() : checkDivision(M_DIVIDE_BACK, y.wide, y.high, x.wide, x.high);
                case T_BACKSLASH:
                    return checkDivision(M_DIVIDE, x.high, x.wide, y.high, y.wide);
                case T_POWER:
                    return checkPower(x, y);
                case T_DOT_POWER:
                    return checkEachPower();
                default:
                    return checkEach();
            }
        }

        private int checkEach() {
            Value x = in[0];
            Value y = in[1];
            if (x.isNumber()) {
                return shapeOf(y.high, y.wide);
            }
            boolean fits = y.isNumber() || x.high == y.high && x.wide == y.wide;
            return fits ? shapeOf(x.high, x.wide) : BAD_SHAPE;
        }

        private int checkEachPower() {
            int bad = checkEach();
            for (int i = 0; i < in[1].count() && bad == 0; i++) {
                bad = isWholeFrom(in[1].data[i], -1024, 1024) ? 0 : BAD_DOMAIN;
            }
            cost = cost * 32;
            return bad;
        }

        private int checkPower(Value x, Value y) {
            if (!y.isNumber() || !x.isSquare()) {
                return BAD_SHAPE;
            }
            if (x.isNumber()) {
                return checkEachPower();
            }
            if (!isWholeFrom(y.data[0], 0, 64)) {
                return BAD_DOMAIN;
            }
            mode = M_POWER;
            cost = y.data[0] == 0 ? 0 : x.high * x.high * x.high / 32;
            return 0;
        }

        private int checkProduct(Value x, Value y) {
            if (x.wide != y.high || shapeOf(x.high, y.wide) != 0) {
                return BAD_SHAPE;
            }
            mode = M_PRODUCT;
            cost = x.high * x.wide * y.wide / 32;
            return 0;
        }

        /** Of a division from the left of values with these shapes. */
        private int checkDivision(int how, int n, int m, int rowCount, int columnCount) {
            if (n < m || n > MOST_SIDE || rowCount != n) {
                return BAD_SHAPE;
            }
            mode = how;
            cost = n * m * (m + columnCount) / 32;
            return 0;
        }

        /** Number by number: the first fault. */
        int workEach(int kind) {
            Value x = in[0];
            Value y = in[1];
            Value z = res[0];
            boolean far = x.isNumber();
            z.shape(false, far ? y.high : x.high, far ? y.wide : x.wide);
            int stepX = far ? 0 : 1;
            int stepY = y.isNumber() ? 0 : 1;
            for (int i = 0; i < z.count(); i++) {
                double a = x.data[i * stepX];
                double b = y.data[i * stepY];
                boolean powers = kind == T_POWER || kind == T_DOT_POWER;
                if (b == 0 && (kind == T_SLASH || kind == T_DOT_SLASH)) {
                    return BAD_ZERO;
                }
                double result = powers ? powerOf(a, (int) b) : resultOf(kind, a, b);
                if (!isFinite(result)) {
                    // A power is not finite for want of a divisor, too.
                    return powers && b < 0 && powerOf(a, (int) -b) == 0 ? BAD_ZERO : BAD_RANGE;
                }
                z.data[i] = result;
            }
            return 0;
        }

        private static double resultOf(int kind, double a, double b) {
            switch (kind) {
                case T_PLUS: return a + b;
                case T_MINUS: return a - b;
                case T_TIMES: case T_DOT_TIMES: return a * b;
                case T_SLASH: case T_DOT_SLASH: return b == 0 ? 0 : a / b;
                case T_EQUAL: return a == b ? 1 : 0;
                case T_UNEQUAL: return a != b ? 1 : 0;
                case T_AT_MOST: return a <= b ? 1 : 0;
                case T_AT_LEAST: return a >= b ? 1 : 0;
                case T_BELOW: return a < b ? 1 : 0;
                case T_ABOVE: return a > b ? 1 : 0;
                default: return 0;
            }
        }

        /** 1 times x so many times, and below 0 the quotient of 1 by that; not finite for a fault. */
        private static double powerOf(double x, int times) {
            double product = 1;
            for (int i = 0; i < Math.abs(times) && isFinite(product); i++) {
                product = product * x;
            }
            if (times >= 0 || !isFinite(product)) {
                return product;
            }
            return product == 0 ? scaled(1, 1023) * 2 : 1 / product;
        }

        void workTexts(int kind) {
            boolean same = in[0].wide == in[1].wide;
            for (int i = 0; i < in[0].wide && same; i++) {
                same = in[0].data[i] == in[1].data[i];
            }
            res[0].becomeNumber(same == (kind == T_EQUAL) ? 1 : 0);
        }

        /** z becomes x y. */
        int product(Value x, Value y, Value z) {
            z.shape(false, x.high, y.wide);
            for (int i = 0; i < x.high; i++) {
                for (int j = 0; j < y.wide; j++) {
                    double sum = 0;
                    for (int k = 0; k < x.wide; k++) {
                        sum = sum + x.data[i * x.wide + k] * y.data[k * y.wide + j];
                        if (!isFinite(sum)) {
                            return BAD_RANGE;
                        }
                    }
                    z.data[i * z.wide + j] = sum;
                }
            }
            return 0;
        }

        // Operations of one, and ranges.

        int checkOne(int kind) {
            if (in[0].text) {
                return BAD_KIND;
            }
            return kind == T_QUOTE ? shapeOf(in[0].wide, in[0].high) : shapeOf(in[0].high, in[0].wide);
        }

        void workOne(int kind) {
            Value x = in[0];
            Value z = res[0];
            if (kind == T_QUOTE) {
                z.becomeTransposed(x);
                return;
            }
            z.copyOf(x);
            for (int i = 0; i < z.count(); i++) {
                if (kind == T_MINUS) {
                    z.data[i] = -x.data[i];
                } else if (kind == T_NOT) {
                    z.data[i] = x.data[i] == 0 ? 1 : 0;
                }
            }
        }

        /** The row from in[0] to the last one of so many values, which the result becomes when nothing is wrong. */
        int checkRange(int values) {
            boolean texts = false;
            boolean numbers = true;
            for (int i = 0; i < values; i++) {
                texts = texts || in[i].text;
                numbers = numbers && in[i].isNumber();
            }
            if (texts || !numbers) {
                return texts ? BAD_KIND : BAD_SHAPE;
            }
            double step = values == 3 ? in[1].data[0] : 1;
            double last = in[values - 1].data[0];
            double next = in[0].data[0];
            Value z = res[0];
            z.shape(false, 1, MOST_NUMBERS);
            int count = 0;
            while (count <= MOST_NUMBERS && step != 0 && isFinite(next) && (step > 0 ? next <= last : next >= last)) {
                if (count < MOST_NUMBERS) {
                    z.data[count] = next;
                }
                next = next + step;
                count++;
            }
            z.wide = Math.min(count, MOST_NUMBERS);
            return shapeOf(1, count);
        }

        // Bench functions.

        /** The fault that a call of the function has by its arguments, and its cost beyond 1. */
        int check(int f, int arguments) {
            boolean open = f == F_ROWS || f == F_COLS || f == F_COUNT || f == F_SIZE;
            for (int i = 0; i < arguments; i++) {
                if (!open && in[i].text != (f == F_ERROR)) {
                    return BAD_KIND;
                }
            }
            high = 1;
            wide = 1;
            cost = 0;
            if (f >= F_LU && f <= F_PROVED) {
                return checkSolving(f);
            }
            return f == F_ZEROS || f == F_ONES || f == F_EYE || f >= F_KRON && f <= F_REPEAT
                ? checkBuilding(f) : checkOther(f, arguments);
        }

        private int checkOther(int f, int arguments) {
            Value x = in[0];
            switch (f) {
                case F_SUM:
                    return arguments == 2 ? checkSum() : 0;
                case F_MIN: case F_MAX:
                    return x.count() == 0 ? BAD_SHAPE : 0;
                case F_CUMSUM: case F_ABS: case F_FLOOR: case F_CEIL: case F_ROUND: case F_SIGN:
                    return shapeOf(x.high, x.wide);
                case F_SQRT:
                    return hasBelowZero(x) ? BAD_DOMAIN : shapeOf(x.high, x.wide);
                case F_MOD:
                    return checkEach();
                case F_DOT:
                    return x.count() == in[1].count() ? 0 : BAD_SHAPE;
                case F_FIND:
                    return shapeOf(countFound(x), 1);
                case F_SORT:
                    shapeOf(x.high, x.wide);
                    cost = cost * 32;
                    return 0;
                case F_TEXT:
                    cost = 7;
                    return x.isNumber() ? 0 : BAD_SHAPE;
                default:
                    return 0;
            }
        }

        private int checkSum() {
            if (!in[1].isNumber()) {
                return BAD_SHAPE;
            }
            double along = in[1].data[0];
            if (along != 1 && along != 2) {
                return BAD_DOMAIN;
            }
            return along == 1 ? shapeOf(1, in[0].wide) : shapeOf(in[0].high, 1);
        }

        private static boolean hasBelowZero(Value x) {
            for (int i = 0; i < x.count(); i++) {
                if (x.data[i] < 0) {
                    return true;
                }
            }
            return false;
        }

        private static int countFound(Value x) {
            int count = 0;
            for (int i = 0; i < x.count(); i++) {
                count += x.data[i] != 0 ? 1 : 0;
            }
            return count;
        }

        /** Whole arguments from one to another: SHAPE of any of them comes before DOMAIN of any. */
        private int checkWhole(int from, int to) {
            for (int i = from; i <= to; i++) {
                if (!in[i].isNumber()) {
                    return BAD_SHAPE;
                }
            }
            for (int i = from; i <= to; i++) {
                if (!isWholeFrom(in[i].data[0], 0, MOST_NUMBERS)) {
                    return BAD_DOMAIN;
                }
            }
            return 0;
        }

        private int wholeOf(int i) {
            return (int) in[i].data[0];
        }

        private int checkBuilding(int f) {
            Value x = in[0];
            Value y = in[1];
            int bad = 0;
            switch (f) {
                case F_ZEROS: case F_ONES:
                    bad = checkWhole(0, 1);
                    return bad != 0 ? bad : shapeOf(wholeOf(0), wholeOf(1));
                case F_EYE:
                    bad = checkWhole(0, 0);
                    return bad != 0 ? bad : shapeOf(wholeOf(0), wholeOf(0));
                case F_KRON:
                    return shapeOf((long) x.high * y.high, (long) x.wide * y.wide);
                case F_TRACE:
                    return 0;
                case F_DIAG:
                    boolean builds = x.high == 1 || x.wide == 1;
                    return builds ? shapeOf(x.count(), x.count()) : shapeOf(Math.min(x.high, x.wide), 1);
                case F_RESHAPE:
                    bad = checkWhole(1, 2);
                    if (bad == 0 && (long) wholeOf(1) * wholeOf(2) != x.count()) {
                        bad = BAD_SHAPE;
                    }
                    return bad != 0 ? bad : shapeOf(wholeOf(1), wholeOf(2));
                case F_REPEAT:
                    bad = checkWhole(1, 2);
                    return bad != 0 ? bad : shapeOf((long) x.high * wholeOf(1), (long) x.wide * wholeOf(2));
                default:
                    return shapeOf(x.high, x.wide);
            }
        }

        private int checkSolving(int f) {
            Value x = in[0];
            int n = x.high;
            boolean fits = f == F_QR ? n >= x.wide && n <= MOST_SIDE : x.isSquare();
            if (f == F_PROVED) {
                fits = fits && in[1].wide == 1 && in[1].high == n;
                cost = 2 * (n * n * (n + 1) / 32);
            } else if (f == F_QR) {
                cost = fits ? n * n * x.wide / 32 : 0;
            } else if (f == F_INV) {
                cost = n * n * (n + n) / 32;
            } else if (f != F_EIG) {
                cost = n * n * n / 32;
            }
            if (!fits) {
                return BAD_SHAPE;
            }
            return f == F_EIG && !isOwnTransposed(x) ? BAD_DOMAIN : 0;
        }

        private static boolean isOwnTransposed(Value x) {
            for (int i = 0; i < x.high; i++) {
                for (int j = 0; j < i; j++) {
                    if (x.data[i * x.wide + j] != x.data[j * x.wide + i]) {
                        return false;
                    }
                }
            }
            return true;
        }

        /** What the function gives for arguments that were looked at. */
        int work(int f, int arguments) {
            Value z = res[0];
            switch (f) {
                case F_ROWS: case F_SIZE:
                    res[1].becomeNumber(in[0].wide);
                    z.becomeNumber(in[0].high);
                    return 0;
                case F_COLS:
                    z.becomeNumber(in[0].wide);
                    return 0;
                case F_COUNT:
                    z.becomeNumber(in[0].count());
                    return 0;
                case F_SUM: case F_PROD: case F_DOT: case F_NORM: case F_TRACE:
                    return workSum(f, arguments);
                case F_MIN: case F_MAX:
                    workExtreme(f == F_MIN);
                    return 0;
                case F_ANY:
                    z.becomeNumber(countFound(in[0]) > 0 ? 1 : 0);
                    return 0;
                case F_ALL:
                    z.becomeNumber(countFound(in[0]) == in[0].count() ? 1 : 0);
                    return 0;
                case F_CUMSUM:
                    return workCumulated();
                case F_MOD:
                    return workMod();
                case F_FIND:
                    workFind();
                    return 0;
                case F_SORT:
                    workSort();
                    return 0;
                case F_ZEROS: case F_ONES: case F_EYE: case F_KRON: case F_DIAG: case F_TRIL: case F_TRIU:
                case F_RESHAPE: case F_REPEAT:
                    return workBuilding(f);
                default:
                    workSingle(f);
                    return 0;
            }
        }

        private void workSingle(int f) {
            Value x = in[0];
            Value z = res[0];
            z.shape(false, x.high, x.wide);
            for (int i = 0; i < x.count(); i++) {
                double a = x.data[i];
                switch (f) {
                    case F_ABS: z.data[i] = sizeOf(a); break;
                    case F_SQRT: z.data[i] = rootOf(a); break;
                    case F_FLOOR: z.data[i] = floorOf(a); break;
                    case F_CEIL: z.data[i] = -floorOf(-a); break;
                    case F_ROUND: z.data[i] = roundOf(a); break;
                    default: z.data[i] = a > 0 ? 1 : a < 0 ? -1 : 0; break;
                }
            }
        }

        private int workSum(int f, int arguments) {
            Value x = in[0];
            int n = x.count();
            switch (f) {
                case F_SUM:
                    if (arguments == 1) {
                        return sums(1, n, 1, n);
                    }
                    return in[1].data[0] == 1 ? sums(x.wide, 1, x.wide, x.high) : sums(x.high, x.wide, 1, x.wide);
                case F_PROD:
                    return workProduct();
                case F_DOT:
                    return sumOfProducts(x, in[1], false);
                case F_NORM:
                    return sumOfProducts(x, x, true);
                default:
                    return sums(1, n, x.wide + 1, Math.min(x.high, x.wide));
            }
        }

        /** So many sums, each of the numbers from its begin in steps; these sums are a row, or a column of row sums. */
        private int sums(int many, int begin, int step, int count) {
            Value x = in[0];
            Value z = res[0];
            z.shape(false, (int) high, (int) wide);
            for (int s = 0; s < many; s++) {
                double sum = 0;
                for (int i = 0; i < count; i++) {
                    sum = sum + x.data[s * begin + i * step];
                    if (!isFinite(sum)) {
                        return BAD_RANGE;
                    }
                }
                z.data[s] = sum;
            }
            return 0;
        }

        private int workProduct() {
            Value x = in[0];
            double product = 1;
            for (int i = 0; i < x.count(); i++) {
                product = product * x.data[i];
                if (!isFinite(product)) {
                    return BAD_RANGE;
                }
            }
            res[0].becomeNumber(product);
            return 0;
        }

        private int sumOfProducts(Value x, Value y, boolean root) {
            double sum = 0;
            for (int i = 0; i < x.count(); i++) {
                sum = sum + x.data[i] * y.data[i];
                if (!isFinite(sum)) {
                    return BAD_RANGE;
                }
            }
            res[0].becomeNumber(root ? rootOf(sum) : sum);
            return 0;
        }

        private void workExtreme(boolean least) {
            Value x = in[0];
            int best = 0;
            for (int i = 1; i < x.count(); i++) {
                if (least ? x.data[i] < x.data[best] : x.data[i] > x.data[best]) {
                    best = i;
                }
            }
            res[0].becomeNumber(x.data[best]);
            res[1].becomeNumber(best + 1);
        }

        private int workCumulated() {
            Value x = in[0];
            Value z = res[0];
            z.shape(false, x.high, x.wide);
            double sum = 0;
            for (int i = 0; i < x.count(); i++) {
                sum = sum + x.data[i];
                if (!isFinite(sum)) {
                    return BAD_RANGE;
                }
                z.data[i] = sum;
            }
            return 0;
        }

        private int workMod() {
            Value x = in[0];
            Value y = in[1];
            Value z = res[0];
            z.shape(false, (int) high, (int) wide);
            for (int i = 0; i < z.count(); i++) {
                double a = x.data[x.isNumber() ? 0 : i];
                double b = y.data[y.isNumber() ? 0 : i];
                if (b == 0) {
                    return BAD_ZERO;
                }
                double quotient = a / b;
                if (!isFinite(quotient)) {
                    return BAD_RANGE;
                }
                double result = a - floorOf(quotient) * b;
                if (!isFinite(result)) {
                    return BAD_RANGE;
                }
                z.data[i] = result;
            }
            return 0;
        }

        private void workFind() {
            Value x = in[0];
            Value z = res[0];
            z.shape(false, (int) high, 1);
            int count = 0;
            for (int i = 0; i < x.count() && count < z.count(); i++) {
                if (x.data[i] != 0) {
                    z.data[count] = i + 1;
                    count++;
                }
            }
        }

        private void workSort() {
            Value x = in[0];
            sortOrder(x.data, x.count());
            res[0].shape(false, x.high, x.wide);
            res[1].shape(false, x.high, x.wide);
            for (int i = 0; i < x.count(); i++) {
                res[0].data[i] = x.data[order[i]];
                res[1].data[i] = order[i] + 1;
            }
        }

        /** The order comes to tell which numbers stand one behind the other, rising, equal ones as they stood. */
        private void sortOrder(double[] numbers, int count) {
            if (count > order.length) {
                int room = Math.max(count, order.length * 2);
                order = new int[room];
                other = new int[room];
            }
            for (int i = 0; i < count; i++) {
                order[i] = i;
            }
            for (int length = 1; length < count; length = length * 2) {
                for (int from = 0; from < count; from += 2 * length) {
                    int middle = Math.min(from + length, count);
                    mergeOrder(numbers, from, middle, Math.min(middle + length, count));
                }
                int[] former = order;
                order = other;
                other = former;
            }
        }

        private void mergeOrder(double[] numbers, int from, int middle, int to) {
            int a = from;
            int b = middle;
            for (int i = from; i < to; i++) {
                boolean first = b >= to || a < middle && numbers[order[a]] <= numbers[order[b]];
                other[i] = first ? order[a] : order[b];
                a += first ? 1 : 0;
                b += first ? 0 : 1;
            }
        }

        private int workBuilding(int f) {
            Value x = in[0];
            Value z = res[0];
            z.fill((int) high, (int) wide, f == F_ONES ? 1 : 0);
            switch (f) {
                case F_EYE:
                    z.becomeUnit(z.high);
                    return 0;
                case F_KRON:
                    return workBlocks();
                case F_DIAG:
                    workDiagonal();
                    return 0;
                case F_TRIL: case F_TRIU:
                    workTriangle(f == F_TRIL);
                    return 0;
                case F_RESHAPE:
                    System.arraycopy(x.data, 0, z.data, 0, z.count());
                    return 0;
                case F_REPEAT:
                    workRepeated();
                    return 0;
                default:
                    return 0;
            }
        }

        private void workRepeated() {
            Value x = in[0];
            Value z = res[0];
            if (x.high == 0 || x.wide == 0) {
                return;
            }
            for (int i = 0; i < z.high; i++) {
                for (int j = 0; j < z.wide; j++) {
                    z.data[i * z.wide + j] = x.data[i % x.high * x.wide + j % x.wide];
                }
            }
        }

        private int workBlocks() {
            Value x = in[0];
            Value y = in[1];
            Value z = res[0];
            if (y.high == 0 || y.wide == 0) {
                return 0;
            }
            for (int i = 0; i < z.high; i++) {
                for (int j = 0; j < z.wide; j++) {
                    double block = x.data[i / y.high * x.wide + j / y.wide];
                    double product = block * y.data[i % y.high * y.wide + j % y.wide];
                    if (!isFinite(product)) {
                        return BAD_RANGE;
                    }
                    z.data[i * z.wide + j] = product;
                }
            }
            return 0;
        }

        private void workDiagonal() {
            Value x = in[0];
            Value z = res[0];
            boolean builds = x.high == 1 || x.wide == 1;
            int n = builds ? x.count() : Math.min(x.high, x.wide);
            for (int i = 0; i < n; i++) {
                if (builds) {
                    z.data[i * n + i] = x.data[i];
                } else {
                    z.data[i] = x.data[i * x.wide + i];
                }
            }
        }

        private void workTriangle(boolean lower) {
            Value x = in[0];
            Value z = res[0];
            for (int i = 0; i < x.high; i++) {
                for (int j = 0; j < x.wide; j++) {
                    if (lower ? j <= i : j >= i) {
                        z.data[i * x.wide + j] = x.data[i * x.wide + j];
                    }
                }
            }
        }
    }

    /** Factors and solves. */
    private static final class Solver {
        private static final int LIMBS = 208;
        private static final int LIMB = 30;
        private static final long LIMB_MASK = (1L << 30) - 1;
        /** The bit of a sum that stands for 1. */
        private static final int UNIT = 3450;
        private final Value[] in;
        private final Value[] res;
        private final Value a = new Value();
        private final Value q = new Value();
        private final Value other = new Value();
        private final int[] origin = new int[MOST_SIDE];
        private int swaps;
        private final double[] v = new double[MOST_SIDE];
        /** Whether a product or quotient of numbers that are not 0 came too near to 0 to be of full precision. */
        private boolean tiny;
        private long[] sums = new long[0];

        Solver(Value[] arguments, Value[] results) {
            in = arguments;
            res = results;
        }

        private double at(int i, int j) {
            return a.data[i * a.wide + j];
        }

        private void set(int i, int j, double number) {
            a.data[i * a.wide + j] = number;
        }

        private void watch(double result, double x, double y) {
            double least = 2.2250738585072014E-308;
            if (result < least && result > -least && x != 0 && y != 0) {
                tiny = true;
            }
        }

        /** a becomes the factors of x, n by n: l below its diagonal, u from the diagonal on. */
        int factor(Value x) {
            a.copyOf(x);
            int n = a.high;
            swaps = 0;
            tiny = false;
            for (int i = 0; i < n; i++) {
                origin[i] = i;
            }
            for (int k = 0; k < n; k++) {
                exchange(k);
                if (at(k, k) == 0) {
                    return BAD_SINGULAR;
                }
                for (int i = k + 1; i < n; i++) {
                    int bad = eliminate(i, k);
                    if (bad != 0) {
                        return bad;
                    }
                }
            }
            return 0;
        }

        /** The row from k on with the greatest size in column k comes to stand in row k. */
        private void exchange(int k) {
            int best = k;
            for (int i = k + 1; i < a.high; i++) {
                if (sizeOf(at(i, k)) > sizeOf(at(best, k))) {
                    best = i;
                }
            }
            if (best == k) {
                return;
            }
            for (int j = 0; j < a.wide; j++) {
                double former = at(k, j);
                set(k, j, at(best, j));
                set(best, j, former);
            }
            int row = origin[k];
            origin[k] = origin[best];
            origin[best] = row;
            swaps++;
        }

        private int eliminate(int i, int k) {
            double pivot = at(k, k);
            if (pivot == 0) {
                return BAD_SINGULAR;
            }
            double l = at(i, k) / pivot;
            watch(l, at(i, k), pivot);
            set(i, k, l);
            for (int j = k + 1; j < a.wide; j++) {
                double product = l * at(k, j);
                watch(product, l, at(k, j));
                double rest = at(i, j) - product;
                if (!isFinite(rest)) {
                    return BAD_RANGE;
                }
                set(i, j, rest);
            }
            return 0;
        }

        /** z becomes the solution with y of what was factored. */
        int solve(Value y, Value z) {
            int n = a.high;
            z.shape(false, n, y.wide);
            for (int c = 0; c < y.wide; c++) {
                for (int i = 0; i < n; i++) {
                    v[i] = y.data[origin[i] * y.wide + c];
                    int bad = lessen(i, 0, i);
                    if (bad != 0) {
                        return bad;
                    }
                }
                int bad = solveBack(n, z, c);
                if (bad != 0) {
                    return bad;
                }
            }
            return 0;
        }

        /** Number i of v less those from one to another, each times its number in row i. */
        private int lessen(int i, int from, int to) {
            for (int j = from; j < to; j++) {
                double product = at(i, j) * v[j];
                watch(product, at(i, j), v[j]);
                v[i] = v[i] - product;
                if (!isFinite(v[i])) {
                    return BAD_RANGE;
                }
            }
            return 0;
        }

        /** From row m up, by what stands from the diagonal on; the solution is column c of z. */
        private int solveBack(int m, Value z, int c) {
            for (int i = m - 1; i >= 0; i--) {
                int bad = lessen(i, i + 1, m);
                if (bad != 0) {
                    return bad;
                }
                double pivot = at(i, i);
                if (pivot == 0) {
                    return BAD_SINGULAR;
                }
                double quotient = v[i] / pivot;
                watch(quotient, v[i], pivot);
                if (!isFinite(quotient)) {
                    return BAD_RANGE;
                }
                v[i] = quotient;
                z.data[i * z.wide + c] = quotient;
            }
            return 0;
        }

        /** z becomes the solution with y of x, which has more rows than columns and was reduced. */
        int fit(Value x, Value y, Value z) {
            int bad = 0;
            int n = x.high;
            other.shape(false, n, y.wide);
            for (int i = 0; i < n && bad == 0; i++) {
                for (int c = 0; c < y.wide && bad == 0; c++) {
                    bad = turnedBack(i, c, y);
                }
            }
            z.shape(false, x.wide, y.wide);
            for (int c = 0; c < y.wide && bad == 0; c++) {
                for (int i = 0; i < x.wide; i++) {
                    v[i] = other.data[i * y.wide + c];
                }
                bad = solveBack(x.wide, z, c);
            }
            return bad;
        }

        /** Number i, c of q' * y. */
        private int turnedBack(int i, int c, Value y) {
            double sum = 0;
            for (int k = 0; k < q.high; k++) {
                sum = sum + q.data[k * q.wide + i] * y.data[k * y.wide + c];
                if (!isFinite(sum)) {
                    return BAD_RANGE;
                }
            }
            other.data[i * other.wide + c] = sum;
            return 0;
        }

        /** a becomes r of x, q becomes q. */
        int reduce(Value x) {
            a.copyOf(x);
            q.becomeUnit(x.high);
            int bad = 0;
            for (int k = 0; k < x.wide && k < x.high - 1 && bad == 0; k++) {
                bad = reflect(k);
            }
            return bad;
        }

        private int reflect(int k) {
            int n = a.high;
            double squares = 0;
            for (int i = k; i < n; i++) {
                squares = squares + at(i, k) * at(i, k);
                if (!isFinite(squares)) {
                    return BAD_RANGE;
                }
            }
            double s = rootOf(squares);
            if (s == 0) {
                return 0;
            }
            double first = at(k, k) > 0 ? -s : s;
            double h = 0;
            for (int i = k; i < n; i++) {
                v[i] = i == k ? at(k, k) - first : at(i, k);
                h = isFinite(v[i]) ? h + v[i] * v[i] : v[i];
                if (!isFinite(h)) {
                    return BAD_RANGE;
                }
                set(i, k, i == k ? first : 0);
            }
            if (h == 0) {
                return BAD_RANGE;
            }
            int bad = 0;
            for (int j = k + 1; j < a.wide && bad == 0; j++) {
                bad = reflectLine(a.data, k * a.wide + j, a.wide, k, h);
            }
            for (int i = 0; i < n && bad == 0; i++) {
                bad = reflectLine(q.data, i * n + k, 1, k, h);
            }
            return bad;
        }

        /** The numbers from begin on in steps, beginning with the one that belongs to v(k), are reflected. */
        private int reflectLine(double[] data, int begin, int step, int k, double h) {
            int n = a.high;
            double sum = 0;
            for (int i = k; i < n; i++) {
                sum = sum + v[i] * data[begin + (i - k) * step];
                if (!isFinite(sum)) {
                    return BAD_RANGE;
                }
            }
            double doubled = 2 * sum;
            if (!isFinite(doubled) || h == 0) {
                return BAD_RANGE;
            }
            double t = doubled / h;
            if (!isFinite(t)) {
                return BAD_RANGE;
            }
            for (int i = k; i < n; i++) {
                int place = begin + (i - k) * step;
                data[place] = data[place] - t * v[i];
                if (!isFinite(data[place])) {
                    return BAD_RANGE;
                }
            }
            return 0;
        }

        // Bench functions.

        int lu() {
            int bad = factor(in[0]);
            int n = a.high;
            res[0].becomeUnit(n);
            res[1].fill(n, n, 0);
            res[2].shape(false, n, 1);
            for (int i = 0; i < n; i++) {
                for (int j = 0; j < n; j++) {
                    res[j < i ? 0 : 1].data[i * n + j] = at(i, j);
                }
                res[2].data[i] = origin[i] + 1;
            }
            return bad;
        }

        int det() {
            int bad = factor(in[0]);
            double product = 1;
            for (int i = 0; i < a.high && bad == 0; i++) {
                product = product * at(i, i);
                bad = isFinite(product) ? 0 : BAD_RANGE;
            }
            if (bad == BAD_SINGULAR) {
                product = 0;
                bad = 0;
            }
            res[0].becomeNumber((swaps & 1) != 0 ? -product : product);
            return bad;
        }

        int inv() {
            int bad = factor(in[0]);
            other.becomeUnit(a.high);
            return bad != 0 ? bad : solve(other, res[0]);
        }

        int qr() {
            int bad = reduce(in[0]);
            res[0].copyOf(q);
            res[1].copyOf(a);
            return bad;
        }

        int chol() {
            Value x = in[0];
            int n = x.high;
            a.fill(n, n, 0);
            for (int j = 0; j < n; j++) {
                for (int i = j; i < n; i++) {
                    double s = x.data[i * n + j];
                    for (int k = 0; k < j; k++) {
                        s = s - at(i, k) * at(j, k);
                        if (!isFinite(s)) {
                            return BAD_RANGE;
                        }
                    }
                    if (i == j && s <= 0) {
                        return BAD_POSITIVE;
                    }
                    double pivot = at(j, j);
                    double l = i == j ? rootOf(s) : pivot == 0 ? 0 : s / pivot;
                    if (!isFinite(l)) {
                        return BAD_RANGE;
                    }
                    set(i, j, l);
                }
            }
            res[0].copyOf(a);
            return 0;
        }

        // Values and vectors: turns, one after the other.

        void beginTurns() {
            a.copyOf(in[0]);
            q.becomeUnit(a.high);
        }

        boolean isSettled() {
            for (int i = 0; i < a.high; i++) {
                for (int j = 0; j < a.wide; j++) {
                    if (i != j && at(i, j) != 0) {
                        return false;
                    }
                }
            }
            return true;
        }

        int turn() {
            int bad = 0;
            for (int i = 0; i < a.high; i++) {
                for (int j = i + 1; j < a.high && bad == 0; j++) {
                    double size = sizeOf(at(i, j));
                    double part = 5.551115123125783E-17;
                    if (size <= part * sizeOf(at(i, i)) && size <= part * sizeOf(at(j, j))) {
                        set(i, j, 0);
                        set(j, i, 0);
                    } else if (size > 0) {
                        bad = rotate(i, j);
                    }
                }
            }
            return bad;
        }

        private int rotate(int i, int j) {
            double x = at(i, j);
            double difference = at(j, j) - at(i, i);
            if (!isFinite(difference) || !isFinite(2 * x) || x == 0) {
                return BAD_RANGE;
            }
            double z = difference / (2 * x);
            if (!isFinite(z) || !isFinite(z * z)) {
                return BAD_RANGE;
            }
            double size = 1 / (sizeOf(z) + rootOf(z * z + 1));
            double t = z < 0 ? -size : size;
            double c = 1 / rootOf(t * t + 1);
            double s = t * c;
            double w = t * x;
            for (int k = 0; k < a.high; k++) {
                if (k != i && k != j) {
                    double former = at(k, i);
                    set(k, i, c * former - s * at(k, j));
                    set(k, j, s * former + c * at(k, j));
                    set(i, k, at(k, i));
                    set(j, k, at(k, j));
                    if (!isFinite(at(k, i)) || !isFinite(at(k, j))) {
                        return BAD_RANGE;
                    }
                }
            }
            set(i, i, at(i, i) - w);
            set(j, j, at(j, j) + w);
            set(i, j, 0);
            set(j, i, 0);
            return isFinite(at(i, i)) && isFinite(at(j, j)) ? rotateVectors(i, j, c, s) : BAD_RANGE;
        }

        private int rotateVectors(int i, int j, double c, double s) {
            for (int k = 0; k < q.high; k++) {
                int row = k * q.wide;
                double former = q.data[row + i];
                q.data[row + i] = c * former - s * q.data[row + j];
                q.data[row + j] = s * former + c * q.data[row + j];
            }
            return 0;
        }

        /** The values rising, equal ones as they stood, and their columns. */
        void finishTurns() {
            int n = a.high;
            for (int i = 0; i < n; i++) {
                int place = i;
                while (place > 0 && at(origin[place - 1], origin[place - 1]) > at(i, i)) {
                    origin[place] = origin[place - 1];
                    place--;
                }
                origin[place] = i;
            }
            res[0].shape(false, n, 1);
            res[1].shape(false, n, n);
            for (int j = 0; j < n; j++) {
                res[0].data[j] = at(origin[j], origin[j]);
                for (int i = 0; i < n; i++) {
                    res[1].data[i * n + j] = q.data[i * n + origin[j]];
                }
            }
        }

        // The exact look at a solution.

        int proved(boolean looks) {
            int bad = factor(in[0]);
            if (bad == 0) {
                bad = solve(in[1], res[0]);
            }
            if (bad == 0 && looks) {
                res[1].becomeNumber(tiny ? 2 : isProved(in[0], in[1], res[0]) ? 1 : 0);
            }
            return bad;
        }

        /** Whether each number of |y - x z| is at most 3 n / (2^53 - 3 n) times that of P'|L||U||z|, both exactly. */
        private boolean isProved(Value x, Value y, Value z) {
            int n = x.high;
            if (sums.length < (n + 2) * LIMBS) {
                sums = new long[Math.max((n + 2) * LIMBS, 2 * sums.length)];
            }
            Arrays.fill(sums, 0);
            for (int k = 0; k < n; k++) {
                Arrays.fill(sums, n * LIMBS, (n + 1) * LIMBS, 0);
                for (int j = k; j < n; j++) {
                    addProduct(n, sizeOf(at(k, j)), sizeOf(z.data[j]));
                }
                carry(n);
                for (int i = k; i < n; i++) {
                    addScaled(i, n, i == k ? 1.0 : sizeOf(at(i, k)), false);
                }
            }
            boolean proved = true;
            for (int i = 0; i < n; i++) {
                proved = proved && isRowProved(i, x, y, z);
            }
            return proved;
        }

        private boolean isRowProved(int i, Value x, Value y, Value z) {
            int n = x.high;
            int row = origin[i];
            Arrays.fill(sums, n * LIMBS, (n + 2) * LIMBS, 0);
            addProduct(n, y.data[row], 1.0);
            for (int j = 0; j < n; j++) {
                addProduct(n, -x.data[row * n + j], z.data[j]);
            }
            if (carry(n) < 0) {
                for (int k = n * LIMBS; k < (n + 1) * LIMBS; k++) {
                    sums[k] = LIMB_MASK - sums[k];
                }
                sums[n * LIMBS]++;
                carry(n);
            }
            carry(i);
            addScaled(n + 1, i, 3.0 * n, false);
            addScaled(n + 1, n, 9007199254740992.0 - 3.0 * n, true);
            return carry(n + 1) >= 0;
        }

        /** The sum's limbs become 0 to LIMB_MASK again; below 0 is told if the sum is. */
        private long carry(int sum) {
            long over = 0;
            for (int k = sum * LIMBS; k < (sum + 1) * LIMBS; k++) {
                long whole = sums[k] + over;
                sums[k] = whole & LIMB_MASK;
                over = whole >> LIMB;
            }
            return over;
        }

        private void addProduct(int sum, double x, double y) {
            if (x == 0 || y == 0) {
                return;
            }
            int exponentX = exponentOf(sizeOf(x));
            int exponentY = exponentOf(sizeOf(y));
            long m = (long) scaled(sizeOf(x), -exponentX);
            long n = (long) scaled(sizeOf(y), -exponentY);
            long half = (1L << 27) - 1;
            int bit = UNIT + exponentX + exponentY;
            boolean minus = x < 0 != y < 0;
            addAt(sum, (m & half) * (n & half), bit, minus);
            addAt(sum, (m & half) * (n >> 27), bit + 27, minus);
            addAt(sum, (m >> 27) * (n & half), bit + 27, minus);
            addAt(sum, (m >> 27) * (n >> 27), bit + 54, minus);
        }

        /** Adds another sum, whose limbs are 0 to LIMB_MASK, times a factor that is not below 0. */
        private void addScaled(int sum, int from, double factor, boolean minus) {
            if (factor == 0) {
                return;
            }
            int exponent = exponentOf(factor);
            long m = (long) scaled(factor, -exponent);
            long half = (1L << 27) - 1;
            for (int k = 0; k < LIMBS; k++) {
                long limb = sums[from * LIMBS + k];
                if (limb != 0) {
                    addAt(sum, limb * (m & half), k * LIMB + exponent, minus);
                    addAt(sum, limb * (m >> 27), k * LIMB + exponent + 27, minus);
                }
            }
        }

        /** Adds or takes away a number below 2^60 at that bit. */
        private void addAt(int sum, long number, int bit, boolean minus) {
            int limb = bit / LIMB;
            if (bit < 0 || limb + 2 >= LIMBS) {
                return;
            }
            int shift = bit % LIMB;
            long lower = (number & LIMB_MASK) << shift;
            long upper = (number >> LIMB) << shift;
            long sign = minus ? -1 : 1;
            int k = sum * LIMBS + limb;
            sums[k] += sign * (lower & LIMB_MASK);
            sums[k + 1] += sign * ((lower >> LIMB) + (upper & LIMB_MASK));
            sums[k + 2] += sign * (upper >> LIMB);
        }
    }

    /** Runs programs, instruction by instruction. */
    private static final class Machine {
        // No run takes more steps: each fuel that is taken leads to some hundred at most.
        private static final long MOST_STEPS = 1000000000L;
        private static final int FRAME = 6;
        private static final int TRY = 3;
        private final Store store;
        private final Output printer;
        private final Stack stack = new Stack();
        private final Value[] in = { new Value(), new Value(), new Value() };
        private final Value[] res = { new Value(), new Value(), new Value() };
        private final Functions bench = new Functions(in, res);
        private final Solver solver = new Solver(in, res);
        /** Of each call: where it goes on, what it is asked for, its token, its function, tries and values below. */
        private final int[] frames = new int[(MOST_FRAMES + 1) * FRAME];
        /** Of each try: where its catch is, its frame, the values below. */
        private int[] tries = new int[16 * TRY];
        private int tried;
        private Program p;
        private int next;
        private int fuel;
        private int fault;
        private int spot;
        private int caught;
        /** Whether a call begins when the instruction is over; its arguments and how many results it is asked for. */
        private boolean calling;
        private int arguments;
        private int asked;

        Machine(Store values, Output output) {
            store = values;
            printer = output;
        }

        private void prepare(Program program, int given) {
            p = program;
            fuel = given;
            next = 0;
            fault = 0;
            caught = 0;
            tried = 0;
            calling = false;
        }

        /** Runs the program: 0, or the fault. */
        int go(Program program, int given) {
            prepare(program, given);
            for (long step = 0; step < MOST_STEPS && next >= 0 && next < p.size; step++) {
                int i = next;
                int token = p.tokenOf(i);
                int a = p.first(i);
                int b = p.second(i);
                next++;
                switch (p.what(i)) {
                    case I_STEP: case I_ASK: take(1, token); break;
                    case I_NUMBER: numeral(token); break;
                    case I_TEXT: text(token); break;
                    case I_NAME: name(token, b); break;
                    case I_OPEN: open(token, a, b & 1); break;
                    case I_OPEN_PART: openPart(token); break;
                    case I_OPEN_CALL: mayCall(token, a, b); break;
                    case I_COLON: colon(token, a); break;
                    case I_END: endOf(token, a, b); break;
                    case I_CLOSE: close(token, a); break;
                    case I_CLOSE_CALL: call(p.first(a), p.second(a)); break;
                    case I_WRITE: write(token, a, b); break;
                    case I_STORE: keep(token, 1); stack.drop(1); break;
                    case I_DROP: stack.drop(a); break;
                    case I_KEEP: keep(token, a); break;
                    case I_PAIR: pair(token); break;
                    case I_SIGN: sign(token); break;
                    case I_RANGE: range(token, a); break;
                    case I_TEST: test(token, a); break;
                    case I_TRUTH: truth(token); break;
                    case I_JUMP: next = a; break;
                    case I_JUMP_UNLESS: jumpUnless(a); break;
                    case I_FOR: beginFor(token); break;
                    case I_TURN: turn(token, a, b); break;
                    case I_TRY: beginTry(a); break;
                    case I_UNTRY: tried = Math.max(tried - a, 0); break;
                    case I_PRINT: print(token, a); break;
                    case I_VALUE: joinValue(token, a == 1); break;
                    case I_ROW: joinRow(token, a == 1); break;
                    case I_SQUARE: take(stack.countOf(stack.size - 1) / 32, token); break;
                    case I_NOTHING: nothing(token); break;
                    default: giveBack(); break;
                }
                if (calling && p.functionNamed(p.valueOf(token)) != NONE) {
                    enter(token, p.functionNamed(p.valueOf(token)));
                } else if (calling) {
                    callBench(token, p.valueOf(token) - FIRST_FUNCTION);
                }
                calling = false;
                if (fault != 0) {
                    fall();
                }
            }
            store.unwind(0);
            stack.drop(stack.size);
            return fault;
        }

        private boolean fail(int what, int token) {
            fault = what;
            spot = token;
            return false;
        }

        private boolean take(int amount, int token) {
            if (amount > fuel) {
                fuel = 0;
                return fail(BAD_FUEL, token);
            }
            fuel -= amount;
            return true;
        }

        /** The nearest try goes on behind its catch; without one, and without fuel, the run is over. */
        private void fall() {
            if (fault == BAD_FUEL || tried == 0) {
                next = NONE;
                return;
            }
            tried--;
            next = tries[tried * TRY];
            store.unwind(tries[tried * TRY + 1]);
            stack.drop(stack.size - tries[tried * TRY + 2]);
            caught = fault;
            fault = 0;
        }

        private boolean push(Value v, int token) {
            return stack.pushValue(v) || fail(BAD_MEMORY, token);
        }

        private void pushNumber(double number, int token) {
            if (!stack.pushNumber(number)) {
                fail(BAD_MEMORY, token);
            }
        }

        // Items.

        private void numeral(int token) {
            if (take(1, token)) {
                pushNumber(p.numeralOf(token), token);
            }
        }

        private void text(int token) {
            if (take(1, token)) {
                Value v = res[0];
                int start = p.spotOf(token) + 1;
                v.shape(true, 1, Math.max(Math.min(p.valueOf(token), p.length - start), 0));
                for (int i = 0; i < v.wide; i++) {
                    v.data[i] = p.text[start + i];
                }
                push(v, token);
            }
        }

        private void name(int token, int wanted) {
            int cell = store.find(p.valueOf(token));
            if (cell == NONE) {
                if (mayCall(token, 0, wanted)) {
                    call(0, wanted);
                }
                return;
            }
            if (take(1, token)) {
                pushed(store.pushOn(stack, cell), token, wanted);
            }
        }

        /** What a NAME gave waits if it is wanted. */
        private void pushed(boolean fits, int token, int wanted) {
            if (!fits) {
                fail(BAD_MEMORY, token);
            } else if (wanted == 0) {
                stack.drop(1);
            }
        }

        private void open(int token, int count, int wanted) {
            int cell = store.find(p.valueOf(token));
            if (cell == NONE) {
                mayCall(token, count, wanted);
            } else if (store.isText(cell)) {
                fail(BAD_KIND, token + 1);
            } else if (count < 1 || count > 2) {
                fail(BAD_COUNT, token + 1);
            }
        }

        private void openPart(int token) {
            int cell = store.find(p.valueOf(token));
            if (cell != NONE && store.isText(cell)) {
                fail(BAD_KIND, token + 1);
            }
        }

        private void colon(int token, int open) {
            boolean part = p.what(open) == I_OPEN_PART || store.find(p.valueOf(p.tokenOf(open))) != NONE;
            if (!part) {
                fail(BAD_KIND, token);
            }
        }

        private void endOf(int token, int open, int argument) {
            int cell = store.find(p.valueOf(p.tokenOf(open)));
            if (cell == NONE && p.what(open) != I_OPEN_PART) {
                fail(BAD_NAME, token);
                return;
            }
            int high = cell == NONE ? 0 : store.highOf(cell);
            int wide = cell == NONE ? 0 : store.wideOf(cell);
            if (take(1, token)) {
                pushNumber(p.first(open) == 1 ? high * wide : argument == 0 ? high : wide, token);
            }
        }

        private void close(int token, int open) {
            int wanted = p.second(open) & 1;
            int cell = store.find(p.valueOf(token));
            if (cell == NONE) {
                call(p.first(open), wanted);
            } else {
                readPart(token + 1, cell, p.first(open), p.second(open) >> 4, wanted);
            }
        }

        /** The indexes come from the values that wait; a ':' stands for all of them. */
        private boolean takeIndexes(int token, int count, int colons) {
            for (int i = count - 1; i >= 0; i--) {
                if ((colons >> i & 1) == 0) {
                    stack.pop(in[i]);
                } else {
                    in[i].shape(false, 0, 0);
                }
            }
            boolean texts = in[0].text || count == 2 && in[1].text;
            return !texts || fail(BAD_KIND, token);
        }

        private void readPart(int token, int cell, int count, int colons, int wanted) {
            int high = store.highOf(cell);
            int wide = store.wideOf(cell);
            if (!takeIndexes(token, count, colons)) {
                return;
            }
            if ((colons & 1) != 0) {
                in[0].becomeColumnOfIndexes(count == 1 ? high * wide : high);
            }
            if ((colons & 2) != 0) {
                in[1].becomeColumnOfIndexes(wide);
            }
            int many = count == 1 ? in[0].count() : in[0].count() * in[1].count();
            if (many > MOST_NUMBERS) {
                fail(BAD_SHAPE, token);
                return;
            }
            int bad = in[0].highestIndex(count == 1 ? high * wide : high);
            int worse = count == 1 ? 0 : in[1].highestIndex(wide);
            if (bad == NONE || worse == NONE) {
                fail(BAD_INDEX, token);
                return;
            }
            if (take(1 + many / 32, token)) {
                gather(cell, count);
                pushed(stack.pushValue(res[0]), token, wanted);
            }
        }

        private void gather(int cell, int count) {
            Value z = res[0];
            int start = store.startOf(cell);
            int wide = store.wideOf(cell);
            if (count == 1) {
                z.shape(false, in[0].high, in[0].wide);
                for (int k = 0; k < z.count(); k++) {
                    z.data[k] = store.data[start + (int) in[0].data[k] - 1];
                }
                return;
            }
            z.shape(false, in[0].count(), in[1].count());
            for (int i = 0; i < z.high; i++) {
                int row = start + ((int) in[0].data[i] - 1) * wide;
                for (int j = 0; j < z.wide; j++) {
                    z.data[i * z.wide + j] = store.data[row + (int) in[1].data[j] - 1];
                }
            }
        }

        // Parts that are written.

        private void write(int token, int open, int is) {
            int count = p.first(open);
            int colons = p.second(open) >> 4;
            int cell = store.find(p.valueOf(token));
            int high = cell == NONE ? 0 : store.highOf(cell);
            int wide = cell == NONE ? 0 : store.wideOf(cell);
            stack.pop(in[2]);
            if (!takeIndexes(token + 1, count, colons)) {
                return;
            }
            if (in[2].text) {
                fail(BAD_KIND, is);
                return;
            }
            if (!spreadColons(count, colons, high, wide)) {
                fail(BAD_SHAPE, is);
                return;
            }
            int many = in[0].count() * (count == 1 ? 1 : in[1].count());
            if (in[2].count() != 1 && in[2].count() != many) {
                fail(BAD_SHAPE, is);
                return;
            }
            int bad = grow(count, colons, high, wide);
            if (bad != 0) {
                fail(bad, token + 1);
                return;
            }
            if (take(1 + many / 32, token + 1)) {
                finishWrite(token, cell, count, high, wide);
            }
        }

        /** Each ':' becomes the indexes that it stands for; false if these would not be whole. */
        private boolean spreadColons(int count, int colons, int high, int wide) {
            Value e = in[2];
            boolean bare = high * wide == 0;
            int rows1 = count == 1 ? high * wide : high;
            int columns1 = wide;
            if (bare && count == 1) {
                rows1 = e.count();
            } else if (bare && colons == 3) {
                rows1 = e.high;
                columns1 = e.wide;
            } else if (bare && colons != 0) {
                int others = in[colons == 1 ? 1 : 0].count();
                if (others == 0 || e.count() % others != 0) {
                    return false;
                }
                rows1 = e.count() / others;
                columns1 = rows1;
            }
            if ((colons & 1) != 0) {
                in[0].becomeColumnOfIndexes(rows1);
            }
            if ((colons & 2) != 0) {
                in[1].becomeColumnOfIndexes(columns1);
            }
            return true;
        }

        /** The shape of what it is written to comes to be that of res[0]; otherwise the fault. */
        private int grow(int count, int colons, int high, int wide) {
            int first = in[0].highestIndex(HIGHEST_INDEX);
            int second = count == 1 ? 0 : in[1].highestIndex(HIGHEST_INDEX);
            if (first == NONE || second == NONE) {
                return BAD_INDEX;
            }
            long newHigh = Math.max(high, first);
            long newWide = Math.max(wide, second);
            if (count == 1) {
                newHigh = high;
                newWide = wide;
                boolean bare = high * wide == 0;
                if (bare && colons != 0) {
                    newHigh = first;
                    newWide = 1;
                } else if (first > high * wide && (bare || high == 1)) {
                    newHigh = 1;
                    newWide = first;
                } else if (first > high * wide && wide == 1) {
                    newHigh = first;
                } else if (first > high * wide) {
                    return BAD_INDEX;
                }
            }
            if (newHigh > MOST_NUMBERS || newWide > MOST_NUMBERS || newHigh * newWide > MOST_NUMBERS) {
                return BAD_SHAPE;
            }
            res[0].shape(false, (int) newHigh, (int) newWide);
            return 0;
        }

        private void finishWrite(int token, int cell, int count, int high, int wide) {
            Value z = res[0];
            if (cell != NONE && z.high == high && z.wide == wide) {
                scatter(store.data, store.startOf(cell), wide, count);
                return;
            }
            z.fill(z.high, z.wide, 0);
            for (int i = 0; i < high && wide > 0; i++) {
                System.arraycopy(store.data, store.startOf(cell) + i * wide, z.data, i * z.wide, wide);
            }
            scatter(z.data, 0, z.wide, count);
            if (!store.putValue(p.valueOf(token), z)) {
                fail(BAD_MEMORY, token);
            }
        }

        private void scatter(double[] data, int start, int wide, int count) {
            Value e = in[2];
            int step = e.count() == 1 ? 0 : 1;
            int columns1 = count == 1 ? 1 : in[1].count();
            for (int i = 0; i < in[0].count(); i++) {
                int row = (int) in[0].data[i] - 1;
                for (int j = 0; j < columns1; j++) {
                    int place = count == 1 ? row : row * wide + (int) in[1].data[j] - 1;
                    data[start + place] = e.data[(i * columns1 + j) * step];
                }
            }
        }

        private void keep(int token, int above) {
            int i = stack.size - above;
            if (i >= 0 && !store.putWaiting(p.valueOf(token), stack, i)) {
                fail(BAD_MEMORY, token);
            }
        }

        // Operations.

        private void pair(int token) {
            int kind = p.kindOf(token);
            stack.pop(in[1]);
            stack.pop(in[0]);
            int bad = bench.checkPair(kind);
            if (bad != 0) {
                fail(bad, token);
                return;
            }
            if (!take(1 + bench.cost, token)) {
                return;
            }
            switch (bench.mode) {
                case Functions.M_TEXTS:
                    bench.workTexts(kind);
                    break;
                case Functions.M_PRODUCT:
                    bad = bench.product(in[0], in[1], res[0]);
                    break;
                case Functions.M_DIVIDE:
                    bad = divide(in[0], in[1], res[0]);
                    break;
                case Functions.M_DIVIDE_BACK:
                    res[1].becomeTransposed(in[1]);
                    res[2].becomeTransposed(in[0]);
                    bad = divide(res[1], res[2], in[2]);
                    res[0].becomeTransposed(in[2]);
                    break;
                case Functions.M_POWER:
                    bad = power(token);
                    break;
                default:
                    bad = bench.workEach(kind);
                    break;
            }
            finish(bad, token, 1);
        }

        /** The first results wait, if nothing is wrong. */
        private void finish(int bad, int token, int count) {
            if (bad != 0) {
                fail(bad, token);
            }
            for (int i = 0; i < count && fault == 0; i++) {
                push(res[i], token);
            }
        }

        /** z becomes the solution of x with y. */
        private int divide(Value x, Value y, Value z) {
            boolean square = x.isSquare();
            int bad = square ? solver.factor(x) : solver.reduce(x);
            if (bad != 0) {
                return bad;
            }
            return square ? solver.solve(y, z) : solver.fit(x, y, z);
        }

        private int power(int token) {
            int n = in[0].high;
            int times = (int) in[1].data[0];
            if (times == 0) {
                res[0].becomeUnit(n);
                return 0;
            }
            // 1s in the diagonal, times x, are x.
            res[0].copyOf(in[0]);
            for (int i = 1; i < times; i++) {
                if (!take(n * n * n / 32, token)) {
                    return BAD_FUEL;
                }
                int bad = bench.product(res[0], in[0], res[1]);
                if (bad != 0) {
                    return bad;
                }
                res[0].copyOf(res[1]);
            }
            return 0;
        }

        private void sign(int token) {
            int kind = p.kindOf(token);
            stack.pop(in[0]);
            int bad = bench.checkOne(kind);
            if (bad != 0) {
                fail(bad, token);
            } else if (take(1 + bench.cost, token)) {
                bench.workOne(kind);
                push(res[0], token);
            }
        }

        private void range(int token, int values) {
            for (int i = values - 1; i >= 0; i--) {
                stack.pop(in[i]);
            }
            int bad = bench.checkRange(values);
            if (bad != 0) {
                fail(bad, token);
            } else if (take(1 + bench.cost, token)) {
                push(res[0], token);
            }
        }

        private boolean popTruth() {
            boolean yes = stack.isTrue(stack.size - 1);
            stack.drop(1);
            return yes;
        }

        private void test(int token, int behind) {
            boolean yes = popTruth();
            boolean and = p.kindOf(token) == T_AND;
            if (take(1, token) && yes != and) {
                pushNumber(yes ? 1 : 0, token);
                next = behind;
            }
        }

        private void truth(int token) {
            pushNumber(popTruth() ? 1 : 0, token);
        }

        private void jumpUnless(int target) {
            if (!popTruth()) {
                next = target;
            }
        }

        private void joinValue(int token, boolean first) {
            int bad = first ? 0 : stack.faultBeside();
            if (bad != 0) {
                fail(bad, token);
            } else if (take(1, token)) {
                if (first) {
                    stack.levelTop();
                } else {
                    stack.joinBeside();
                }
            }
        }

        private void joinRow(int token, boolean first) {
            int bad = first ? 0 : stack.faultBelow();
            if (bad != 0) {
                fail(bad, token);
            } else if (take(1, token) && !first) {
                stack.joinBelow();
            }
        }

        private void nothing(int token) {
            res[0].shape(false, 0, 0);
            push(res[0], token);
        }

        // Statements.

        private void beginFor(int token) {
            if (stack.size > 0 && stack.text[stack.size - 1]) {
                fail(BAD_KIND, token);
            }
        }

        private void turn(int token, int behind, int nameToken) {
            int i = stack.size - 1;
            if (i < 0 || stack.turn[i] >= stack.wide[i]) {
                next = behind;
                return;
            }
            if (!take(1, token)) {
                return;
            }
            Value column = res[0];
            column.shape(false, stack.high[i], 1);
            for (int k = 0; k < column.high; k++) {
                column.data[k] = stack.data[stack.start[i] + k * stack.wide[i] + stack.turn[i]];
            }
            stack.turn[i]++;
            if (!store.putValue(p.valueOf(nameToken), column)) {
                fail(BAD_MEMORY, nameToken);
            }
        }

        private void beginTry(int target) {
            if ((tried + 1) * TRY > tries.length) {
                tries = Arrays.copyOf(tries, tries.length * 2);
            }
            tries[tried * TRY] = target;
            tries[tried * TRY + 1] = store.depth;
            tries[tried * TRY + 2] = stack.size;
            tried++;
        }

        private void print(int token, int count) {
            int from = Math.max(stack.size - count, 0);
            int numbers = 0;
            int characters = 0;
            for (int i = from; i < stack.size; i++) {
                numbers += stack.text[i] ? 0 : stack.countOf(i);
                characters += stack.text[i] ? stack.countOf(i) : 0;
            }
            if (!take(8 * numbers + characters / 32, token)) {
                return;
            }
            int before = printer.length;
            printer.full = false;
            for (int i = from; i < stack.size && !printer.full; i++) {
                boolean shows = p.kindOf(token) == T_SHOW;
                if (shows && !stack.text[i]) {
                    printer.showMatrix(stack, i);
                } else {
                    printer.printValue(stack, i);
                    printer.put(shows || i == stack.size - 1 ? (char) 10 : ' ');
                }
            }
            if (printer.full) {
                printer.length = before;
                fail(BAD_OUT, token);
            }
            stack.drop(count);
        }

        // Calls.

        /** Whether the NAME can be called with so many arguments and be asked for so much. */
        private boolean mayCall(int token, int count, int wanted) {
            int function = p.functionNamed(p.valueOf(token));
            if (function != NONE) {
                boolean fits = wanted <= p.resultsOf(function) && count <= p.parametersOf(function);
                return fits || fail(BAD_COUNT, token);
            }
            int f = p.valueOf(token) - FIRST_FUNCTION;
            if (f < 0 || f >= FUNCTION_COUNT) {
                return fail(BAD_NAME, token);
            }
            boolean fits = count >= CALLED_WITH[3 * f] && count <= CALLED_WITH[3 * f + 1];
            return fits && wanted <= CALLED_WITH[3 * f + 2] || fail(BAD_COUNT, token);
        }

        private void call(int count, int wanted) {
            calling = true;
            arguments = count;
            asked = wanted;
        }

        private void enter(int token, int function) {
            if (store.depth >= MOST_FRAMES) {
                fail(BAD_DEPTH, token);
                return;
            }
            if (!take(1, token)) {
                return;
            }
            int low = stack.size - arguments;
            store.enter();
            for (int i = 0; i < arguments; i++) {
                if (!store.putWaiting(p.parameterName(function, i), stack, low + i)) {
                    fail(BAD_MEMORY, token);
                    return;
                }
            }
            stack.drop(arguments);
            int at = store.depth * FRAME;
            frames[at] = next;
            frames[at + 1] = asked;
            frames[at + 2] = token;
            frames[at + 3] = function;
            frames[at + 4] = tried;
            frames[at + 5] = stack.size;
            next = p.entryOf(function);
        }

        /** The function that runs is over: its results wait, and its frame is gone. */
        private void giveBack() {
            if (store.depth == 0) {
                next = NONE;
                return;
            }
            int at = store.depth * FRAME;
            int token = frames[at + 2];
            int function = frames[at + 3];
            next = frames[at];
            tried = frames[at + 4];
            stack.drop(stack.size - frames[at + 5]);
            for (int i = 0; i < frames[at + 1]; i++) {
                if (store.find(p.resultName(function, i)) == NONE) {
                    fail(BAD_NAME, token);
                    return;
                }
            }
            for (int i = 0; i < frames[at + 1]; i++) {
                if (!store.pushOn(stack, store.find(p.resultName(function, i)))) {
                    fail(BAD_MEMORY, token);
                    return;
                }
            }
            store.unwind(store.depth - 1);
        }

        private void callBench(int token, int f) {
            for (int i = arguments - 1; i >= 0; i--) {
                stack.pop(in[i]);
            }
            int bad = bench.check(f, arguments);
            if (bad == 0 && f == F_ERROR) {
                bad = BAD_CALLED;
            }
            if (bad != 0) {
                fail(bad, token);
                return;
            }
            if (!take(1 + bench.cost, token)) {
                return;
            }
            switch (f) {
                case F_LU: bad = solver.lu(); break;
                case F_DET: bad = solver.det(); break;
                case F_INV: bad = solver.inv(); break;
                case F_CHOL: bad = solver.chol(); break;
                case F_QR: bad = solver.qr(); break;
                case F_EIG: bad = turns(token); break;
                case F_PROVED: bad = solver.proved(asked > 1); break;
                case F_TEXT: writeBrief(in[0].data[0]); break;
                case F_FAULT: res[0].becomeNumber(caught); break;
                default: bad = bench.work(f, arguments); break;
            }
            finish(bad, token, asked);
        }

        private void writeBrief(double number) {
            printer.brief(number);
            res[0].shape(true, 1, printer.lineLength);
            for (int i = 0; i < printer.lineLength; i++) {
                res[0].data[i] = printer.line[i];
            }
        }

        private int turns(int token) {
            int n = in[0].high;
            solver.beginTurns();
            for (int i = 0; i < MOST_TURNS && !solver.isSettled(); i++) {
                if (!take(n * n * n / 32, token)) {
                    return BAD_FUEL;
                }
                int bad = solver.turn();
                if (bad != 0) {
                    return bad;
                }
            }
            if (!solver.isSettled()) {
                return BAD_STILL;
            }
            solver.finishTurns();
            return 0;
        }
    }
}
