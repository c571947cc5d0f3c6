import java.util.Arrays;

/** Promises 7, 8 and 9: read, write, methods. */
public final class ReadWriteTest {
    private static final int[] NO = {};
    private static final int[] RETURN = {177};

    private ReadWriteTest() {
    }

    public static void main(String[] args) {
        everyByteOfAFile();
        endsTooEarly();
        constants();
        numbersOfMethods();
        head();
        firstBytesOfInstructions();
        operands();
        codeNotWhole();
        framesAreRead();
        framesThatFail();
        targets();
        behindTheLastMethod();
        failureLeavesTheProgram();
        typedFileStays();
        writing();
        longestFile();
        TestKit.end("ReadWriteTest");
    }

    private static int readOf(int[] file) {
        VerifiedCode x = new VerifiedCode();
        TestKit.typeAll(x, file);
        return x.read();
    }

    private static void dueRead(String what, int want, int[] file) {
        TestKit.due(what + ": read()", readOf(file), want);
    }

    /** One parameter of each type, two constants, a frame with a stack: every part that a file can have. */
    private static int[] richFile() {
        int[] first = TestKit.method(TestKit.row(1, 2), 1, 2, 3, TestKit.row(21, 0, 153, 0, 5, 18, 1, 172),
            TestKit.frame(0, TestKit.row(1, 2, 0)), TestKit.frame(7, TestKit.row(0, 3, 0), 1));
        return TestKit.file(TestKit.constants(-2, 300), first, TestKit.method(NO, 0, 0, 0, RETURN));
    }

    private static void everyByteOfAFile() {
        int[] file = richFile();
        dueRead("rich file", VerifiedCode.NONE, file);
        // For each byte of the file: the lowest and the highest that it may be, in place of what it is.
        int[][] range = {{0, 202, 202}, {10, 1, 4}, {11, 0, 3}, {12, 1, 2}, {13, 1, 2}, {14, 0, 2}, {15, 0, 6},
            {16, 2, 6}, {17, 1, 60}, {19, 0, 2}, {24, 0, 1}, {26, 0, 8}, {27, 0, 7}, {28, 0, 3}, {31, 0, 2},
            {32, 1, 7}, {33, 0, 3}, {36, 0, 2}, {37, 1, 3}, {38, 0, 3}};
        for (int[] r : range) {
            if (r[1] > 0) {
                dueRead("byte " + r[0] + " too small", r[0], TestKit.with(file, r[0], r[1] - 1));
            }
            dueRead("byte " + r[0] + " too great", r[0], TestKit.with(file, r[0], r[2] + 1));
            dueRead("byte " + r[0] + " far too great", r[0], TestKit.with(file, r[0], 255 - (r[2] == 255 ? 1 : 0)));
        }
        for (int k = 2; k < 10; k++) {
            dueRead("byte " + k + " of a constant", VerifiedCode.NONE, TestKit.with(file, k, 255));
        }
    }

    private static void endsTooEarly() {
        int[] file = richFile();
        for (int n = 0; n < file.length; n++) {
            dueRead("the first " + n + " bytes", n, Arrays.copyOf(file, n));
            // What was read before must not be taken for the rest.
            VerifiedCode x = TestKit.loaded("whole, then short", file);
            TestKit.due("whole once more: read()", x.read(), VerifiedCode.NONE);
            TestKit.typeAll(x, Arrays.copyOf(file, n));
            TestKit.due("the first " + n + " bytes after the whole: read()", x.read(), n);
        }
        int[] code = new int[60];
        Arrays.fill(code, 177);
        int[] method = TestKit.method(NO, 0, 0, 0, code);
        int[] tooLong = TestKit.file(TestKit.constants(), method, method, method, method);
        dueRead("240 bytes that end in the code", 240, Arrays.copyOf(tooLong, 240));
    }

    private static void constants() {
        int[] method = TestKit.method(NO, 0, 0, 0, RETURN);
        for (int n = 0; n <= 4; n++) {
            dueRead(n + " constants", VerifiedCode.NONE, TestKit.file(TestKit.constants(new int[n]), method));
        }
        dueRead("5 constants", 1, TestKit.file(TestKit.constants(new int[5]), method));
    }

    private static void numbersOfMethods() {
        int[] method = TestKit.method(NO, 0, 0, 0, RETURN);
        dueRead("no method", 2, TestKit.file(TestKit.constants()));
        int[][] methods = new int[0][];
        for (int n = 1; n <= 4; n++) {
            methods = Arrays.copyOf(methods, n);
            methods[n - 1] = method;
            int[] file = TestKit.file(TestKit.constants(), methods);
            VerifiedCode x = TestKit.loaded(n + " methods", file);
            TestKit.due(n + " methods: methods()", x.methods(), n);
        }
        methods = Arrays.copyOf(methods, 5);
        methods[4] = method;
        dueRead("5 methods", 2, TestKit.file(TestKit.constants(), methods));
    }

    private static void head() {
        dueRead("3 parameters, 3 places", VerifiedCode.NONE,
            TestKit.fileOf(TestKit.method(TestKit.row(1, 2, 1), 0, 0, 3, RETURN)));
        dueRead("3 parameters, 2 places", 9, TestKit.fileOf(TestKit.method(TestKit.row(1, 2, 1), 0, 0, 2, RETURN)));
        dueRead("3 parameters, 6 places", VerifiedCode.NONE,
            TestKit.fileOf(TestKit.method(TestKit.row(1, 2, 1), 0, 0, 6, RETURN)));
        dueRead("7 places", 6, TestKit.fileOf(TestKit.method(NO, 0, 0, 7, RETURN)));
        dueRead("4 parameters", 3, TestKit.fileOf(TestKit.method(TestKit.row(1, 1, 1, 1), 0, 0, 4, RETURN)));
        dueRead("a parameter of type 0", 5, TestKit.fileOf(TestKit.method(TestKit.row(1, 0), 0, 0, 4, RETURN)));
        dueRead("a parameter of type 3", 4, TestKit.fileOf(TestKit.method(TestKit.row(3, 1), 0, 0, 4, RETURN)));
        dueRead("returns 3", 4, TestKit.fileOf(TestKit.method(NO, 3, 0, 0, RETURN)));
        dueRead("depth 6", VerifiedCode.NONE, TestKit.fileOf(TestKit.method(NO, 0, 6, 0, RETURN)));
        dueRead("depth 7", 5, TestKit.fileOf(TestKit.method(NO, 0, 7, 0, RETURN)));
        dueRead("no code", 7, TestKit.fileOf(TestKit.method(NO, 0, 0, 0, NO)));
        int[] longest = new int[60];
        Arrays.fill(longest, 177);
        dueRead("60 bytes of code", VerifiedCode.NONE, TestKit.fileOf(TestKit.method(NO, 0, 0, 0, longest)));
        int[] tooLong = new int[61];
        Arrays.fill(tooLong, 177);
        dueRead("61 bytes of code", 7, TestKit.fileOf(TestKit.method(NO, 0, 0, 0, tooLong)));
    }

    /** How long an instruction is, written out apart from the program; 0 for none. */
    private static int lengthOf(int code) {
        int[] one = {1, 46, 79, 87, 89, 95, 96, 100, 104, 108, 116, 172, 176, 177, 188, 190};
        int[] two = {16, 18, 21, 25, 54, 58, 184};
        int[] three = {132, 153, 154, 155, 156, 157, 158, 159, 160, 161, 162, 163, 164, 167, 198, 199};
        if (Arrays.binarySearch(one, code) >= 0) {
            return 1;
        }
        if (Arrays.binarySearch(two, code) >= 0) {
            return 2;
        }
        return Arrays.binarySearch(three, code) >= 0 ? 3 : 0;
    }

    private static void firstBytesOfInstructions() {
        for (int code = 0; code < 256; code++) {
            int length = lengthOf(code);
            int[] instruction = new int[Math.max(1, length)];
            instruction[0] = code;
            int[] method = TestKit.method(NO, 0, 0, 1, TestKit.bytes(177, instruction, 177));
            dueRead("instruction " + code, length == 0 ? 13 : VerifiedCode.NONE,
                TestKit.file(TestKit.constants(5), method));
        }
    }

    private static void operands() {
        int[] place = {21, 25, 54, 58};
        for (int code : place) {
            dueRead(code + " of the last place", VerifiedCode.NONE,
                TestKit.fileOf(TestKit.method(NO, 0, 1, 6, TestKit.row(code, 5))));
            dueRead(code + " of a place too many", 9, TestKit.fileOf(TestKit.method(NO, 0, 1, 2, TestKit.row(code, 2))));
            dueRead(code + " without places", 9, TestKit.fileOf(TestKit.method(NO, 0, 1, 0, TestKit.row(code, 0))));
        }
        dueRead("132 of a place too many", 9, TestKit.fileOf(TestKit.method(NO, 0, 1, 3, TestKit.row(132, 3, 1))));
        dueRead("132 by 255", VerifiedCode.NONE, TestKit.fileOf(TestKit.method(NO, 0, 1, 3, TestKit.row(132, 2, 255))));
        dueRead("16 of 255", VerifiedCode.NONE, TestKit.fileOf(TestKit.method(NO, 0, 1, 0, TestKit.row(16, 255))));
        dueRead("18 without constants", 9, TestKit.fileOf(TestKit.method(NO, 0, 1, 1, TestKit.row(18, 0))));
        int[] second = TestKit.method(NO, 0, 1, 1, TestKit.row(18, 1));
        dueRead("18 of the second of two", VerifiedCode.NONE, TestKit.file(TestKit.constants(1, 2), second));
        dueRead("18 of the second of one", 13, TestKit.file(TestKit.constants(1), second));
        dueRead("184 of itself", VerifiedCode.NONE, TestKit.fileOf(TestKit.method(NO, 0, 0, 0, TestKit.row(184, 0))));
        int[] later = TestKit.method(NO, 0, 0, 0, TestKit.row(184, 1));
        dueRead("184 of a method that there is not", 9, TestKit.fileOf(later));
        dueRead("184 of a later method", VerifiedCode.NONE,
            TestKit.file(TestKit.constants(), later, TestKit.method(NO, 0, 0, 0, RETURN)));
    }

    private static void codeNotWhole() {
        dueRead("21 without place", 9, TestKit.fileOf(TestKit.method(NO, 0, 0, 1, TestKit.row(21))));
        dueRead("132 without c", 10, TestKit.fileOf(TestKit.method(NO, 0, 0, 1, TestKit.row(132, 0))));
        dueRead("132 without c, its place wrong", 9, TestKit.fileOf(TestKit.method(NO, 0, 0, 1, TestKit.row(132, 1))));
        dueRead("167 without t", 9, TestKit.fileOf(TestKit.method(NO, 0, 0, 0, TestKit.row(167))));
        dueRead("199 with half a t", 11, TestKit.fileOf(TestKit.method(NO, 0, 0, 0, TestKit.row(177, 199, 0))));
        dueRead("184 without method", 10, TestKit.fileOf(TestKit.method(NO, 0, 0, 0, TestKit.row(177, 184))));
        // The file ends in the code: that comes before the code's end.
        dueRead("half a t, and the file ends", 10,
            Arrays.copyOf(TestKit.fileOf(TestKit.method(NO, 0, 0, 0, TestKit.row(167, 0, 3, 177))), 10));
    }

    private static void framesAreRead() {
        int[] code = {177, 177, 177, 177, 177, 177, 177, 177, 177};
        int[][] frames = new int[8][];
        for (int k = 0; k < 8; k++) {
            frames[k] = TestKit.frame(k + 1, TestKit.row(0, 1, 2, 3), 1, 2, 3);
        }
        dueRead("8 frames", VerifiedCode.NONE, TestKit.fileOf(TestKit.method(NO, 0, 3, 4, code, frames)));
        int[][] nine = new int[9][];
        for (int k = 0; k < 9; k++) {
            nine[k] = TestKit.frame(k, NO);
        }
        dueRead("9 frames", 17, TestKit.fileOf(TestKit.method(NO, 0, 0, 0, code, nine)));
    }

    private static int[] oneFrame(int[] frame) {
        return TestKit.fileOf(TestKit.method(NO, 0, 2, 1, TestKit.row(16, 177, 177), frame));
    }

    private static void framesThatFail() {
        dueRead("a frame at the last instruction", VerifiedCode.NONE, oneFrame(TestKit.frame(2, TestKit.row(3), 3)));
        dueRead("a frame behind the code", 12, oneFrame(TestKit.frame(3, TestKit.row(3), 3)));
        dueRead("a frame at an operand", 16, oneFrame(TestKit.frame(1, TestKit.row(3), 3)));
        dueRead("a place of type 4", 13, oneFrame(TestKit.frame(2, TestKit.row(4), 3)));
        dueRead("a stack deeper than depth", 14, oneFrame(TestKit.frame(2, TestKit.row(0), 3, 3, 3)));
        dueRead("a stack as deep as depth", VerifiedCode.NONE, oneFrame(TestKit.frame(2, TestKit.row(0), 3, 3)));
        dueRead("a value of type 0", 15, oneFrame(TestKit.frame(2, TestKit.row(0), 0)));
        dueRead("a second value of type 4", 16, oneFrame(TestKit.frame(2, TestKit.row(0), 1, 4)));
        int[] twice = TestKit.fileOf(TestKit.method(NO, 0, 0, 0, TestKit.row(177, 177),
            TestKit.frame(1, NO), TestKit.frame(1, NO)));
        dueRead("two frames at one offset", 13, twice);
        int[] falling = TestKit.fileOf(TestKit.method(NO, 0, 0, 0, TestKit.row(177, 177),
            TestKit.frame(1, NO), TestKit.frame(0, NO)));
        dueRead("falling frames", 13, falling);
        int[] operandThenWrong = TestKit.fileOf(TestKit.method(NO, 0, 1, 0, TestKit.row(16, 177, 177),
            TestKit.frame(1, NO), TestKit.frame(2, NO, 9)));
        dueRead("a wrong byte comes before a frame at an operand", 16, operandThenWrong);
    }

    private static int[] jump(int code, int high, int low) {
        return TestKit.fileOf(TestKit.method(NO, 0, 0, 0, TestKit.row(177, code, high, low, 16, 177, 177)));
    }

    private static void targets() {
        int[] codes = {153, 154, 155, 156, 157, 158, 159, 160, 161, 162, 163, 164, 167, 198, 199};
        for (int code : codes) {
            dueRead(code + " to itself", VerifiedCode.NONE, jump(code, 0, 0));
            dueRead(code + " to the first", VerifiedCode.NONE, jump(code, 255, 255));
            dueRead(code + " to the last", VerifiedCode.NONE, jump(code, 0, 5));
            dueRead(code + " to its operand", 16, jump(code, 0, 1));
            dueRead(code + " to another's operand", 16, jump(code, 0, 4));
            dueRead(code + " behind the code", 16, jump(code, 0, 6));
            dueRead(code + " before the code", 16, jump(code, 255, 254));
            dueRead(code + " far behind", 16, jump(code, 127, 255));
            dueRead(code + " far before", 16, jump(code, 128, 0));
            dueRead(code + " by 256", 16, jump(code, 1, 0));
        }
        // The target fails behind its method, before the next method is looked at.
        int[] bad = TestKit.method(NO, 0, 0, 0, TestKit.row(167, 0, 9));
        dueRead("a target, then a wrong method", 12, TestKit.bytes(202, 0, 2, bad, 200, 200));
        dueRead("a target, then the end", 12, TestKit.bytes(202, 0, 2, bad));
        int[] fine = TestKit.method(NO, 0, 0, 0, RETURN);
        dueRead("the second method's target", 19, TestKit.file(TestKit.constants(), fine, bad));
        int[] longest = new int[60];
        Arrays.fill(longest, 177);
        longest[0] = 167;
        longest[1] = 0;
        longest[2] = 59;
        dueRead("to the last of the longest code", VerifiedCode.NONE,
            TestKit.fileOf(TestKit.method(NO, 0, 0, 0, longest)));
        longest[2] = 60;
        dueRead("behind the longest code", 69, TestKit.fileOf(TestKit.method(NO, 0, 0, 0, longest)));
        // Where instructions begin is the method's own: the first one has one at 1, the second has not.
        int[] two = TestKit.method(NO, 0, 0, 0, TestKit.row(177, 177, 177));
        int[] operand = TestKit.method(NO, 0, 0, 0, TestKit.row(167, 0, 1));
        dueRead("a target that begins in another method", 21, TestKit.file(TestKit.constants(), two, operand));
    }

    private static void behindTheLastMethod() {
        int[] file = richFile();
        dueRead("a byte behind", file.length, TestKit.bytes(file, 0));
        dueRead("two bytes behind", file.length, TestKit.bytes(file, 202, 0));
    }

    private static void failureLeavesTheProgram() {
        int[] file = richFile();
        int[] others = {0, 1, 10, 11, 17, 25, 38};
        for (int k : others) {
            VerifiedCode x = TestKit.loaded("failure", file);
            TestKit.typeAll(x, TestKit.with(file, k, 255));
            TestKit.due("fails at " + k, x.read() == VerifiedCode.NONE ? 1 : 0, 0);
            TestKit.due("methods() after the failure at " + k, x.methods(), 2);
            TestKit.due("write() after the failure at " + k, x.write(), file.length);
            for (int j = 0; j < file.length; j++) {
                TestKit.due("byteAt(" + j + ") after the failure at " + k, x.byteAt(j), file[j]);
            }
        }
        VerifiedCode x = TestKit.loaded("failure", file);
        TestKit.typeAll(x, TestKit.with(file, 38, 255));
        TestKit.due("the failure", x.read(), 38);
        TestKit.due("run after a failure", x.run(0, 0, 1, 0), VerifiedCode.STUCK);
        x.clear();
        TestKit.due("read() of nothing", x.read(), 0);
        TestKit.due("methods() after reading nothing", x.methods(), 2);
    }

    private static void typedFileStays() {
        int[] file = richFile();
        VerifiedCode x = TestKit.loaded("typed file", file);
        TestKit.due("size() after read()", x.size(), file.length);
        for (int k = 0; k < file.length; k++) {
            TestKit.due("byteAt(" + k + ") after read()", x.byteAt(k), file[k]);
        }
        TestKit.due("a second read()", x.read(), VerifiedCode.NONE);
    }

    private static void writing() {
        int[] file = richFile();
        VerifiedCode x = TestKit.loaded("write", file);
        // The program is not the typed file: it stays as it was read.
        x.poke(3, 77);
        x.type(1, 8);
        TestKit.due("write()", x.write(), file.length);
        TestKit.due("size() after write()", x.size(), file.length);
        for (int k = 0; k < file.length; k++) {
            TestKit.due("byteAt(" + k + ") after write()", x.byteAt(k), file[k]);
        }
        TestKit.dueThrow("byteAt behind", IndexOutOfBoundsException.class, () -> x.byteAt(file.length));
        int[] small = TestKit.fileOf(TestKit.method(NO, 0, 0, 0, RETURN));
        TestKit.typeAll(x, small);
        TestKit.due("read() of a second program", x.read(), VerifiedCode.NONE);
        TestKit.due("methods() of a second program", x.methods(), 1);
        x.clear();
        TestKit.due("write() of a second program", x.write(), small.length);
        TestKit.due("byteAt(8)", x.byteAt(8), 177);
        TestKit.due("read() of what was written", x.read(), VerifiedCode.NONE);

        VerifiedCode none = new VerifiedCode();
        none.type(5, 1);
        TestKit.dueThrow("write() without program", IllegalStateException.class, none::write);
        TestKit.due("size() after that", none.size(), 1);
        TestKit.due("byteAt(0) after that", none.byteAt(0), 5);
    }

    private static void longestFile() {
        int[] code = new int[60];
        Arrays.fill(code, 177);
        int[] method = TestKit.method(NO, 0, 0, 0, code);
        int[] rest = TestKit.method(TestKit.row(1), 0, 0, 1, Arrays.copyOf(code, 30));
        int[] file = TestKit.file(TestKit.constants(), method, method, method, rest);
        file = TestKit.file(TestKit.constants(), method, method, method,
            TestKit.method(TestKit.row(1), 0, 0, 1, Arrays.copyOf(code, 30 + 240 - file.length)));
        TestKit.due("the longest file's length", file.length, 240);
        VerifiedCode x = TestKit.loaded("the longest file", file);
        x.clear();
        TestKit.due("write() of the longest file", x.write(), 240);
        TestKit.due("byteAt(239) of the longest file", x.byteAt(239), 0);
    }
}
