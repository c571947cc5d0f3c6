import java.util.Arrays;

/** Each sentence of promises 7 to 9, and of the terms that they use, that names a boundary case. */
public final class ReadSentencesTest {
    private static final int NONE = VerifiedCode.NONE;
    private static final int MOST = 240;
    private static final int[] NO = {};
    private static final int[] RETURN = {177};
    private static final int[] WITHOUT_OPERAND =
        {1, 46, 79, 87, 89, 95, 96, 100, 104, 108, 116, 172, 176, 177, 188, 190};
    private static final int[] WITH_PLACE = {21, 25, 54, 58, 132};
    private static final int[] WITH_TARGET = {153, 154, 155, 156, 157, 158, 159, 160, 161, 162, 163, 164, 167, 198, 199};
    private static final int[] WITH_ONE_BYTE = {16, 18, 21, 25, 54, 58, 184};

    private ReadSentencesTest() {
    }

    public static void main(String[] args) {
        firstByte();
        numbersOfConstants();
        bytesOfConstants();
        numbersOfMethods();
        parameters();
        returned();
        depths();
        places();
        lengthsOfCode();
        firstBytesOfInstructions();
        namesOfPlaces();
        namesOfConstants();
        namesOfMethods();
        freeOperands();
        numbersOfFrames();
        offsetsOfFrames();
        typesInFrames();
        heightsOfFrames();
        targets();
        everyT();
        firstOneThatFails();
        fileEndsTooEarly();
        codeNotWhole();
        lookedAtBehindTheMethod();
        byteBehindTheLastMethod();
        fileStays();
        programFromNowOn();
        programAsBefore();
        writing();
        writingNothing();
        countingMethods();
        TestKit.end("ReadSentencesTest");
    }

    private static void dueRead(String what, int want, int[] file) {
        TestKit.due(what + ": read()", TestKit.typed(file).read(), want);
    }

    /** The byte may be lowest to highest in this file and nothing else; what is behind it is not looked at. */
    private static void dueRange(String what, int[] file, int k, int lowest, int highest) {
        for (int b = 0; b <= 255; b++) {
            int answer = TestKit.typed(TestKit.with(file, k, b)).read();
            TestKit.due(what + " " + b + " fails at its byte " + k, answer == k ? 1 : 0, b < lowest || b > highest ? 1 : 0);
            TestKit.due(what + " " + b + " fails before its byte", answer != NONE && answer < k ? 1 : 0, 0);
        }
    }

    private static int[] plain() {
        return TestKit.fileOf(TestKit.method(NO, 0, 0, 0, RETURN));
    }

    private static int[] filled(int count, int b) {
        int[] row = new int[count];
        Arrays.fill(row, b);
        return row;
    }

    /** Every part that a file can have: constants, parameters of both types, frames with a stack, two methods. */
    private static int[] rich() {
        int[] first = TestKit.method(TestKit.row(1, 2), 1, 2, 3, TestKit.row(21, 0, 153, 0, 5, 18, 1, 172),
            TestKit.frame(0, TestKit.row(1, 2, 0)), TestKit.frame(7, TestKit.row(0, 3, 0), 1));
        int[] second = TestKit.method(TestKit.row(2), 2, 1, 2, TestKit.row(25, 0, 176));
        return TestKit.file(TestKit.constants(-2, 300), first, second);
    }

    /** For each byte of the rich file one that it may not be; those without (constants, c, t) have none. */
    private static int wrongByte(int k) {
        int[] free = {2, 3, 4, 5, 6, 7, 8, 9, 21, 22};
        return Arrays.binarySearch(free, k) >= 0 ? NONE : 250;
    }

    private static void firstByte() {
        TestKit.sentence("THE FILE OF A PROGRAM: byte 202;");
        dueRange("first byte", plain(), 0, 202, 202);
        dueRead("202", NONE, plain());
    }

    private static void numbersOfConstants() {
        TestKit.sentence("A PROGRAM has 0 to 4 CONSTANTS (ints)");
        dueRange("constants", plain(), 1, 0, 4);
        for (int n = 0; n <= 4; n++) {
            int[] file = TestKit.file(TestKit.constants(new int[n]), TestKit.method(NO, 0, 0, 0, RETURN));
            dueRead(n + " constants", NONE, file);
        }
        dueRead("5 constants", 1, TestKit.file(TestKit.constants(new int[5]), TestKit.method(NO, 0, 0, 0, RETURN)));
    }

    private static void bytesOfConstants() {
        TestKit.sentence("the number of constants, each as four bytes, the highest first;");
        int[] numbers = {0x01020304, 0xFFFEFDFC, Integer.MIN_VALUE, Integer.MAX_VALUE};
        for (int k = 0; k < 4; k++) {
            int[] file = TestKit.file(TestKit.constants(numbers),
                TestKit.method(NO, 1, 1, 0, TestKit.row(18, k, 172)));
            VerifiedCode x = TestKit.loaded("constant " + k, file);
            TestKit.due("run of constant " + k, x.run(0, 0, 0, 0), VerifiedCode.DONE);
            TestKit.due("constant " + k, x.result(), numbers[k]);
        }
        int[] four = TestKit.file(TestKit.constants(numbers), TestKit.method(NO, 0, 0, 0, RETURN));
        for (int k = 2; k < 18; k++) {
            for (int b = 0; b <= 255; b++) {
                dueRead("byte " + k + " of constants", NONE, TestKit.with(four, k, b));
            }
        }
    }

    private static void numbersOfMethods() {
        TestKit.sentence("and 1 to 4 METHODS.");
        dueRange("methods", plain(), 2, 1, 4);
        dueRead("no method", 2, TestKit.bytes(202, 0, 0));
        int[] methods = {};
        for (int n = 1; n <= 5; n++) {
            methods = TestKit.bytes(methods, TestKit.method(NO, 0, 0, 0, RETURN));
            dueRead(n + " methods", n <= 4 ? NONE : 2, TestKit.bytes(202, 0, n, methods));
        }
    }

    private static void parameters() {
        TestKit.sentence("the number of its parameters (0 .. 3) and their types (1 or 2);");
        dueRange("parameters", plain(), 3, 0, 3);
        int[] types = {};
        for (int n = 0; n <= 4; n++) {
            int[] file = TestKit.fileOf(TestKit.method(types, 0, 0, 6, RETURN));
            dueRead(n + " parameters", n <= 3 ? NONE : 3, file);
            for (int k = 0; k < n && n <= 3; k++) {
                dueRange("type of parameter " + k + " of " + n, file, 4 + k, 1, 2);
                dueRead("an INT parameter", NONE, TestKit.with(file, 4 + k, 1));
                dueRead("a ROW parameter", NONE, TestKit.with(file, 4 + k, 2));
            }
            types = TestKit.bytes(types, 1 + n % 2);
        }
    }

    private static void returned() {
        TestKit.sentence("what it returns (0, 1 or 2);");
        dueRange("returned", plain(), 4, 0, 2);
        for (int returns = 0; returns <= 2; returns++) {
            dueRead("returns " + returns, NONE, TestKit.with(plain(), 4, returns));
        }
    }

    private static void depths() {
        TestKit.sentence("its DEPTH (0 .. 6)");
        dueRange("depth", plain(), 5, 0, 6);
        for (int depth = 0; depth <= 6; depth++) {
            dueRead("depth " + depth, NONE, TestKit.with(plain(), 5, depth));
        }
    }

    private static void places() {
        TestKit.sentence("and its PLACES (0 .. 6, no fewer than parameters);");
        int[] types = {};
        for (int n = 0; n <= 3; n++) {
            int[] file = TestKit.fileOf(TestKit.method(types, 0, 0, 6, RETURN));
            dueRange("places with " + n + " parameters", file, 6 + n, n, 6);
            for (int places = n; places <= 6; places++) {
                dueRead(places + " places", NONE, TestKit.with(file, 6 + n, places));
            }
            types = TestKit.bytes(types, 2);
        }
    }

    private static void lengthsOfCode() {
        TestKit.sentence("the number of bytes of its code (1 .. 60), and these;");
        dueRange("bytes of code", plain(), 7, 1, 60);
        for (int n = 0; n <= 62; n++) {
            dueRead(n + " bytes of code", n >= 1 && n <= 60 ? NONE : 7,
                TestKit.fileOf(TestKit.method(NO, 0, 0, 0, filled(n, 177))));
        }
    }

    private static boolean isIn(int[] row, int b) {
        for (int k : row) {
            if (k == b) {
                return true;
            }
        }
        return false;
    }

    private static void firstBytesOfInstructions() {
        TestKit.sentence("INSTRUCTIONS by their first byte; (a byte that begins no instruction)");
        for (int b = 0; b <= 255; b++) {
            int length = isIn(WITHOUT_OPERAND, b) ? 1 : isIn(WITH_ONE_BYTE, b) ? 2
                : b == 132 || isIn(WITH_TARGET, b) ? 3 : 0;
            // Operands 0 are a place, a constant, a method, and a target at itself.
            int[] code = TestKit.bytes(177, b, new int[Math.max(0, length - 1)], 177);
            int[] file = TestKit.file(TestKit.constants(9), TestKit.method(NO, 0, 0, 1, code));
            dueRead("first byte " + b, length == 0 ? 13 : NONE, file);
            int[] alone = TestKit.bytes(b, new int[Math.max(0, length - 1)]);
            dueRead("first byte " + b + " alone", length == 0 ? 12 : NONE,
                TestKit.file(TestKit.constants(9), TestKit.method(NO, 0, 0, 1, alone)));
            if (length != 0) {
                // Which byte it takes for the next instruction's tells how long it is: 0 begins none.
                int[] next = TestKit.bytes(177, b, new int[length - 1], 0, 177);
                dueRead("what is behind first byte " + b, 13 + length,
                    TestKit.file(TestKit.constants(9), TestKit.method(NO, 0, 0, 1, next)));
            }
        }
    }

    private static void namesOfPlaces() {
        TestKit.sentence("p is a byte that names a place,");
        for (int code : WITH_PLACE) {
            for (int places = 0; places <= 6; places++) {
                int[] instruction = code == 132 ? TestKit.row(132, 0, 5) : TestKit.row(code, 0);
                int[] file = TestKit.fileOf(TestKit.method(NO, 0, 1, places, instruction));
                dueRange("place of " + code + " among " + places, file, 9, 0, places - 1);
                for (int p = 0; p < places; p++) {
                    dueRead("place " + p + " of " + code, NONE, TestKit.with(file, 9, p));
                }
            }
        }
    }

    private static void namesOfConstants() {
        TestKit.sentence("18 k (a constant) [ -> INT].");
        for (int n = 0; n <= 4; n++) {
            int[] file = TestKit.file(TestKit.constants(new int[n]),
                TestKit.method(NO, 0, 1, 6, TestKit.row(18, 0)));
            dueRange("constant among " + n, file, 9 + 4 * n, 0, n - 1);
            for (int k = 0; k < n; k++) {
                dueRead("constant " + k + " among " + n, NONE, TestKit.with(file, 9 + 4 * n, k));
            }
        }
    }

    private static void namesOfMethods() {
        TestKit.sentence("184 m (a method) [its parameters -> what it returns, if it does].");
        int[] caller = TestKit.method(NO, 0, 1, 6, TestKit.row(184, 0));
        for (int n = 1; n <= 4; n++) {
            int[] rest = {};
            for (int k = 1; k < n; k++) {
                rest = TestKit.bytes(rest, TestKit.method(NO, 0, 0, 0, RETURN));
            }
            int[] first = TestKit.bytes(202, 0, n, caller, rest);
            int[] last = TestKit.bytes(202, 0, n, rest, caller);
            dueRange("method among " + n + " in the first", first, 9, 0, n - 1);
            dueRange("method among " + n + " in the last", last, last.length - 2, 0, n - 1);
            for (int k = 0; k < n; k++) {
                dueRead("method " + k + " in the first of " + n, NONE, TestKit.with(first, 9, k));
                dueRead("method " + k + " in the last of " + n, NONE, TestKit.with(last, last.length - 2, k));
            }
        }
    }

    private static void freeOperands() {
        TestKit.sentence("c a byte 0 .. 255 (128 and more stand for c - 256),");
        for (int c = 0; c <= 255; c++) {
            int want = c >= 128 ? c - 256 : c;
            VerifiedCode x = TestKit.loaded("16 " + c,
                TestKit.fileOf(TestKit.method(NO, 1, 1, 0, TestKit.row(16, c, 172))));
            x.run(0, 0, 0, 0);
            TestKit.due("16 " + c + ": result()", x.result(), want);
            VerifiedCode y = TestKit.loaded("132 0 " + c,
                TestKit.fileOf(TestKit.method(TestKit.row(1), 1, 1, 1, TestKit.row(132, 0, c, 21, 0, 172))));
            y.run(0, 0, 0, 0);
            TestKit.due("132 0 " + c + ": result()", y.result(), want);
        }
    }

    private static int[][] frames(int count) {
        int[][] frames = new int[count][];
        for (int k = 0; k < count; k++) {
            frames[k] = TestKit.frame(k, NO);
        }
        return frames;
    }

    private static void numbersOfFrames() {
        TestKit.sentence("the number of its FRAMES (0 .. 8), and each:");
        dueRange("frames", plain(), 9, 0, 8);
        for (int n = 0; n <= 9; n++) {
            dueRead(n + " frames", n <= 8 ? NONE : 17,
                TestKit.fileOf(TestKit.method(NO, 0, 0, 0, filled(9, 177), frames(n))));
        }
        dueRead("more frames than bytes of code", 12, TestKit.fileOf(TestKit.method(NO, 0, 0, 0, RETURN, frames(2))));
    }

    private static void offsetsOfFrames() {
        TestKit.sentence("an offset of a frame that does not rise or is none of the code");
        for (int length = 1; length <= 60; length++) {
            int[] file = TestKit.fileOf(TestKit.method(NO, 0, 0, 0, filled(length, 177), TestKit.frame(0, NO)));
            dueRange("the only offset in " + length, file, 9 + length, 0, length - 1);
        }
        int[] code = filled(10, 177);
        for (int first = 0; first < 9; first++) {
            int[] two = TestKit.fileOf(TestKit.method(NO, 0, 0, 0, code,
                TestKit.frame(first, NO), TestKit.frame(9, NO)));
            dueRange("the offset behind " + first, two, 21, first + 1, 9);
            for (int second = first + 1; second <= 9; second++) {
                dueRead(first + " and " + second, NONE, TestKit.with(two, 21, second));
            }
        }
        int[] three = TestKit.fileOf(TestKit.method(NO, 0, 0, 0, code,
            TestKit.frame(5, NO), TestKit.frame(7, NO), TestKit.frame(9, NO)));
        dueRange("the third offset behind 5 and 7", three, 23, 8, 9);
        // The second method's frames begin anew.
        int[] method = TestKit.method(NO, 0, 0, 0, TestKit.row(177, 177), TestKit.frame(1, NO));
        int[] again = TestKit.method(NO, 0, 0, 0, TestKit.row(177, 177), TestKit.frame(0, NO));
        dueRead("a lower offset in the next method", NONE, TestKit.file(TestKit.constants(), method, again));
    }

    private static void typesInFrames() {
        TestKit.sentence("the types of all its places (0 .. 3),");
        int[] file = TestKit.fileOf(TestKit.method(NO, 0, 6, 6, RETURN,
            TestKit.frame(0, TestKit.row(0, 1, 2, 3, 0, 1), 1, 2, 3, 1, 2, 3)));
        dueRead("the greatest frame", NONE, file);
        for (int k = 0; k < 6; k++) {
            dueRange("place " + k, file, 11 + k, 0, 3);
            for (int type = 0; type <= 3; type++) {
                dueRead("place " + k + " of type " + type, NONE, TestKit.with(file, 11 + k, type));
            }
        }
        // Every frame has the types of all places: with none, the height comes at once.
        for (int places = 0; places <= 6; places++) {
            int[] some = TestKit.fileOf(TestKit.method(NO, 0, 0, places, TestKit.row(177, 177),
                TestKit.frame(0, filled(places, 3)), TestKit.frame(1, filled(places, 3))));
            dueRead("two frames of " + places + " places", NONE, some);
        }
        TestKit.sentence("and their types (1 .. 3), the lowest first.");
        for (int k = 0; k < 6; k++) {
            dueRange("value " + k, file, 18 + k, 1, 3);
            for (int type = 1; type <= 3; type++) {
                dueRead("value " + k + " of type " + type, NONE, TestKit.with(file, 18 + k, type));
            }
        }
        int[] lowestFirst = TestKit.fileOf(TestKit.method(NO, 1, 2, 0, TestKit.row(167, 0, 0, 172),
            TestKit.frame(0, NO), TestKit.frame(3, NO, 2, 1)));
        TestKit.due("an INT above a ROW: check(0)", TestKit.loaded("an INT above a ROW", lowestFirst).check(0), NONE);
        int[] exchanged = TestKit.fileOf(TestKit.method(NO, 1, 2, 0, TestKit.row(167, 0, 0, 172),
            TestKit.frame(0, NO), TestKit.frame(3, NO, 1, 2)));
        TestKit.due("a ROW above an INT: check(0)", TestKit.loaded("a ROW above an INT", exchanged).check(0), 3);
    }

    private static void heightsOfFrames() {
        TestKit.sentence("the number of values on its stack (0 .. depth)");
        for (int depth = 0; depth <= 6; depth++) {
            int[] file = TestKit.fileOf(TestKit.method(NO, 0, depth, 0, RETURN, TestKit.frame(0, NO, filled(depth, 1))));
            dueRange("height at depth " + depth, file, 11, 0, depth);
            for (int height = 0; height <= 7; height++) {
                dueRead("height " + height + " at depth " + depth, height <= depth ? NONE : 11,
                    TestKit.fileOf(TestKit.method(NO, 0, depth, 0, RETURN, TestKit.frame(0, NO, filled(height, 2)))));
            }
        }
    }

    /** Instructions of all lengths; the jump stands at 6. Instructions begin at 0, 1, 3, 6, 9, 12, 14. */
    private static int[] around(int code, int t) {
        int[] jump = {code, t >> 8 & 255, t & 255};
        return TestKit.fileOf(TestKit.method(NO, 0, 0, 1, TestKit.bytes(177, 16, 177, 132, 0, 177, jump,
            167, 0, 0, 16, 177, 177)));
    }

    private static void targets() {
        TestKit.sentence("its TARGETS and the offsets of frames are offsets at which an instruction begins;");
        int[] begins = {0, 1, 3, 6, 9, 12, 14};
        int behind = around(167, 0).length;
        for (int code : WITH_TARGET) {
            for (int target = -8; target <= 70; target++) {
                dueRead(code + " to " + target, isIn(begins, target) ? NONE : behind, around(code, target - 6));
            }
        }
        for (int length = 3; length <= 60; length++) {
            int[] jumps = TestKit.fileOf(TestKit.method(NO, 0, 0, 0, TestKit.bytes(167, 0, 0, filled(length - 3, 177))));
            for (int target = 0; target <= 64; target++) {
                boolean good = target == 0 || target >= 3 && target < length;
                dueRead("to " + target + " in " + length, good ? NONE : jumps.length, TestKit.with(jumps, 10, target));
            }
        }
        int[] code = {177, 16, 177, 132, 0, 177, 167, 0, 0, 184, 0, 177};
        int[] starts = {0, 1, 3, 6, 9, 11};
        for (int offset = 0; offset < code.length; offset++) {
            int[] file = TestKit.fileOf(TestKit.method(NO, 0, 0, 1, code, TestKit.frame(offset, TestKit.row(3))));
            dueRead("a frame at " + offset, isIn(starts, offset) ? NONE : file.length, file);
        }
    }

    private static void everyT() {
        TestKit.sentence("t two bytes, the higher first (32768 and more stand for 65536 less): "
            + "the target is the instruction's offset plus that.");
        int[] begins = {0, 1, 3, 6, 9, 12, 14};
        int behind = around(167, 0).length;
        for (int t = 0; t <= 65535; t++) {
            int target = 6 + (t >= 32768 ? t - 65536 : t);
            dueRead("167 by " + t, isIn(begins, target) ? NONE : behind, around(167, t));
        }
    }

    private static void firstOneThatFails() {
        TestKit.sentence("READING goes from byte to byte. It fails at the first one that is not as it may be");
        int[] file = rich();
        dueRead("the rich file", NONE, file);
        for (int k = 0; k < file.length; k++) {
            if (wrongByte(k) == NONE) {
                continue;
            }
            int[] wrong = TestKit.with(file, k, wrongByte(k));
            dueRead("wrong at " + k, k, wrong);
            for (int j = k + 1; j < file.length; j++) {
                dueRead("wrong at " + k + " and " + j, k, TestKit.with(wrong, j, 250));
                dueRead("wrong at " + k + ", ends at " + j, k, Arrays.copyOf(wrong, j));
            }
            dueRead("wrong at " + k + ", and a byte behind", k, TestKit.bytes(wrong, 0));
        }
    }

    private static void fileEndsTooEarly() {
        TestKit.sentence("or where the file ends too early.");
        int[] full = TestKit.file(TestKit.constants(1, 2, 3, 4),
            TestKit.method(TestKit.row(1, 2, 1), 2, 6, 6, TestKit.row(1, 132, 0, 9, 167, 255, 252, 184, 1, 176),
                TestKit.frame(0, filled(6, 0), filled(6, 3)), TestKit.frame(9, filled(6, 3), 1)),
            TestKit.method(NO, 2, 1, 0, TestKit.row(1, 176)),
            TestKit.method(NO, 0, 0, 0, RETURN, TestKit.frame(0, NO)),
            TestKit.method(TestKit.row(2), 0, 0, 1, RETURN));
        int[][] files = {full, rich(), plain(), ofSize(MOST)};
        for (int[] file : files) {
            dueRead("the whole of " + file.length, NONE, file);
            for (int n = 0; n < file.length; n++) {
                dueRead("the first " + n + " of " + file.length, n, Arrays.copyOf(file, n));
            }
        }
        // What an earlier file left behind the end of a later one is not read.
        for (int n = 0; n < rich().length; n++) {
            VerifiedCode x = TestKit.loaded("whole, then short", rich());
            TestKit.due("whole, once more", x.read(), NONE);
            TestKit.typeAll(x, Arrays.copyOf(rich(), n));
            TestKit.due("the first " + n + " behind the whole", x.read(), n);
        }
    }

    /** Three methods with 60 bytes of code each, and a fourth that fills the file up to its size. */
    private static int[] ofSize(int size) {
        int[] method = TestKit.method(NO, 0, 0, 0, filled(60, 177));
        int[] rest = TestKit.method(NO, 0, 0, 0, filled(size - 3 - 3 * method.length - 6, 177));
        int[] file = TestKit.file(TestKit.constants(), method, method, method, rest);
        TestKit.due("the size of the file", file.length, size);
        return file;
    }

    private static void codeNotWhole() {
        TestKit.sentence("A code whose last instruction is not whole fails at the byte behind the code.");
        for (int code : WITH_ONE_BYTE) {
            duePart(TestKit.row(code));
        }
        for (int code : TestKit.bytes(132, WITH_TARGET)) {
            duePart(TestKit.row(code));
            duePart(TestKit.row(code, 0));
        }
        dueRead("a part whose place there is not", 9, TestKit.fileOf(TestKit.method(NO, 0, 0, 1, TestKit.row(132, 1))));
        dueRead("the file ends in the part", 9,
            Arrays.copyOf(TestKit.fileOf(TestKit.method(NO, 0, 0, 1, TestKit.row(167, 0))), 9));
    }

    /** A part of an instruction as the code's end, whatever is before it and behind it. */
    private static void duePart(int[] part) {
        String what = "a part of " + part[0];
        for (int before = 0; before <= 60 - part.length; before++) {
            int[] file = TestKit.file(TestKit.constants(1),
                TestKit.method(NO, 0, 0, 1, TestKit.bytes(filled(before, 177), part)),
                TestKit.method(NO, 0, 0, 0, RETURN));
            dueRead(what + " behind " + before, 12 + before + part.length, file);
        }
        int[] cut = TestKit.bytes(202, 1, 0, 0, 0, 1, 1, 0, 0, 0, 1, part.length, part);
        dueRead(what + " at the file's end", cut.length, cut);
        for (int b = 0; b <= 255; b++) {
            dueRead(what + " before byte " + b, cut.length, TestKit.bytes(cut, b, 0, 0));
        }
    }

    private static void lookedAtBehindTheMethod() {
        TestKit.sentence("are looked at when all of a method was read: it fails at the byte behind it then.");
        int[] badTarget = TestKit.method(NO, 0, 1, 0, TestKit.row(167, 0, 1), TestKit.frame(0, NO, 1));
        int[] badFrame = TestKit.method(NO, 0, 1, 0, TestKit.row(16, 177, 177), TestKit.frame(1, NO, 1));
        int[] badBoth = TestKit.method(NO, 0, 1, 0, TestKit.row(167, 0, 1), TestKit.frame(2, NO, 1));
        int[][] bad = {badTarget, badFrame, badBoth};
        int[] good = TestKit.method(NO, 0, 0, 0, RETURN);
        for (int[] method : bad) {
            int behind = 3 + method.length;
            dueRead("the only method", behind, TestKit.bytes(202, 0, 1, method));
            dueRead("a byte behind it", behind, TestKit.bytes(202, 0, 1, method, 250));
            dueRead("a good one behind it", behind, TestKit.bytes(202, 0, 2, method, good));
            dueRead("a wrong one behind it", behind, TestKit.bytes(202, 0, 2, method, 250, 250));
            dueRead("none behind it", behind, TestKit.bytes(202, 0, 2, method));
            dueRead("a good one before it", behind + good.length, TestKit.bytes(202, 0, 2, good, method));
            dueRead("three good ones before it", behind + 3 * good.length,
                TestKit.bytes(202, 0, 4, good, good, good, method));
            dueRead("a wrong byte before its end", behind - 1,
                TestKit.bytes(202, 0, 1, TestKit.with(method, method.length - 1, 0)));
            for (int n = 3; n < behind; n++) {
                dueRead("the file ends before its end", n, Arrays.copyOf(TestKit.bytes(202, 0, 1, method), n));
            }
        }
        // Where instructions begin is looked at in the method's own code.
        int[] shortOnes = TestKit.method(NO, 0, 0, 0, filled(60, 177));
        int[] operand = TestKit.method(NO, 0, 0, 0, TestKit.row(167, 0, 2));
        dueRead("a target that begins in the method before", 3 + shortOnes.length + operand.length,
            TestKit.bytes(202, 0, 2, shortOnes, operand));
        int[] beyond = TestKit.method(NO, 0, 0, 0, TestKit.row(167, 0, 3));
        dueRead("a target behind the code that begins in the method before", 3 + shortOnes.length + beyond.length,
            TestKit.bytes(202, 0, 2, shortOnes, beyond));
    }

    private static void byteBehindTheLastMethod() {
        TestKit.sentence("A byte behind the last method fails.");
        int[][] files = {plain(), rich(), ofSize(MOST - 1)};
        for (int[] file : files) {
            dueRead("none behind " + file.length, NONE, file);
            for (int b = 0; b <= 255; b++) {
                dueRead("byte " + b + " behind " + file.length, file.length, TestKit.bytes(file, b));
            }
        }
        dueRead("two bytes behind", plain().length, TestKit.bytes(plain(), 202, 202));
        dueRead("a method more than was said", plain().length,
            TestKit.bytes(plain(), TestKit.method(NO, 0, 0, 0, RETURN)));
        dueRead("the same file twice", plain().length, TestKit.bytes(plain(), plain()));
        int[] many = Arrays.copyOf(rich(), MOST);
        dueRead("as many behind as can be typed", rich().length, many);
        dueRead("240 bytes and none behind", NONE, ofSize(MOST));
    }

    private static void fileStays() {
        TestKit.sentence("Reads the typed file (which stays):");
        int[][] files = {rich(), TestKit.with(rich(), 20, 250), Arrays.copyOf(rich(), 30), TestKit.bytes(rich(), 7), NO,
            ofSize(MOST)};
        for (int[] file : files) {
            VerifiedCode x = TestKit.typed(file);
            int first = x.read();
            TestKit.dueBytes("behind read()", x, file);
            TestKit.due("read() once more", x.read(), first);
        }
        VerifiedCode x = TestKit.typed(Arrays.copyOf(plain(), 9));
        TestKit.due("all but the last byte", x.read(), 9);
        x.type(0, 1);
        TestKit.due("the last byte behind them", x.read(), NONE);
    }

    private static void programFromNowOn() {
        TestKit.sentence("NONE, and it is the program from now on;");
        int[] returns5 = TestKit.fileOf(TestKit.method(NO, 1, 1, 0, TestKit.row(16, 5, 172)));
        int[] returnsRow = TestKit.file(TestKit.constants(),
            TestKit.method(NO, 2, 1, 0, TestKit.row(16, 7, 188, 176)), TestKit.method(NO, 0, 0, 0, TestKit.row(87, 177)));
        VerifiedCode x = TestKit.loaded("the first program", returns5);
        TestKit.due("its run", x.run(0, 0, 0, 0), VerifiedCode.DONE);
        TestKit.due("its result()", x.result(), 5);
        TestKit.typeAll(x, returnsRow);
        TestKit.due("typing alone changes no program: methods()", x.methods(), 1);
        TestKit.due("read() of the second program", x.read(), NONE);
        TestKit.due("its methods()", x.methods(), 2);
        TestKit.due("its check(1)", x.check(1), 0);
        TestKit.due("its run", x.run(0, 0, 0, 0), VerifiedCode.DONE);
        TestKit.due("its result()", x.result(), 7);
        x.clear();
        TestKit.due("its run behind clear()", x.run(0, 0, 0, 0), VerifiedCode.DONE);
        TestKit.typeAll(x, returns5);
        TestKit.due("read() of the first program again", x.read(), NONE);
        TestKit.due("its methods() again", x.methods(), 1);
        TestKit.dueThrow("check(1) of the second program is gone", IllegalArgumentException.class, () -> x.check(1));
        TestKit.dueThrow("run(1, ..) of it is gone", IllegalArgumentException.class, () -> x.run(1, 0, 0, 0));
        TestKit.due("its run again", x.run(0, 0, 0, 0), VerifiedCode.DONE);
        TestKit.due("its result() again", x.result(), 5);
    }

    /** The rich program, once run, with the other file typed. */
    private static VerifiedCode richThen(int[] other) {
        VerifiedCode x = TestKit.loaded("the program before", rich());
        x.run(1, 3, 0, 0);
        TestKit.typeAll(x, other);
        return x;
    }

    private static void programAsBefore() {
        TestKit.sentence("or the number of the byte (from 0) at which it FAILS, and the program is as before.");
        int[] other = TestKit.file(TestKit.constants(9),
            TestKit.method(TestKit.row(2), 2, 3, 2, TestKit.row(25, 0, 199, 0, 3, 1, 176),
                TestKit.frame(5, TestKit.row(0, 0))));
        dueRead("the other file", NONE, other);
        for (int n = 0; n < other.length; n++) {
            failsAndLeaves("ends at " + n, n, Arrays.copyOf(other, n));
        }
        for (int k = 0; k < other.length; k++) {
            // The bytes of the constant and of the target may be any.
            if (k >= 2 && k <= 5 || k == 16 || k == 17) {
                continue;
            }
            failsAndLeaves("wrong at " + k, k, TestKit.with(other, k, 250));
        }
        failsAndLeaves("its target is wrong", other.length, TestKit.with(other, 17, 5));
        failsAndLeaves("a byte is behind it", other.length, TestKit.bytes(other, 1));
        // Without a program before there is none behind it.
        for (int n = 0; n < other.length; n++) {
            VerifiedCode x = TestKit.typed(Arrays.copyOf(other, n));
            TestKit.due("the first file fails", x.read(), n);
            TestKit.due("methods() then", x.methods(), 0);
            TestKit.dueThrow("write() then", IllegalStateException.class, x::write);
        }
    }

    private static void failsAndLeaves(String what, int want, int[] file) {
        VerifiedCode x = richThen(file);
        TestKit.due(what + ": read()", x.read(), want);
        TestKit.due(what + ": read() again", x.read(), want);
        VerifiedCode same = richThen(file);
        TestKit.due(what + ": run(0, ..)", x.run(0, 1, 2, 0), same.run(0, 1, 2, 0));
        TestKit.dueSame(what, x, same);
    }

    private static void writing() {
        TestKit.sentence("Types the file of the program in place of what was typed: how many bytes it has.");
        int[][] files = {plain(), rich(), ofSize(MOST)};
        int[][] others = {NO, {202}, plain(), filled(MOST, 7)};
        for (int[] file : files) {
            for (int[] other : others) {
                VerifiedCode x = TestKit.loaded("a program of " + file.length, file);
                TestKit.typeAll(x, other);
                TestKit.due("write() over " + other.length, x.write(), file.length);
                TestKit.dueBytes("write() over " + other.length, x, file);
                TestKit.due("write() again", x.write(), file.length);
                TestKit.due("read() of what was written", x.read(), NONE);
            }
        }
        VerifiedCode x = TestKit.loaded("written, then changed", plain());
        x.write();
        x.poke(8, 176);
        x.type(1, 1);
        TestKit.due("write() behind changes of what was written", x.write(), plain().length);
        TestKit.dueBytes("write() behind changes", x, plain());
        TestKit.due("type behind what was written", x.type(0x0102L, 2), plain().length + 2);
        TestKit.due("its last byte", x.byteAt(plain().length + 1), 2);
        VerifiedCode y = TestKit.loaded("240 bytes", ofSize(MOST));
        y.clear();
        y.write();
        TestKit.dueThrow("type behind 240 that were written", IllegalStateException.class, () -> y.type(1, 1));
    }

    private static void writingNothing() {
        TestKit.sentence("IllegalStateException: there is no program. (write)");
        int[][] files = {NO, plain(), rich(), filled(MOST, 202)};
        for (int[] file : files) {
            TestKit.dueThrowAlone("write() of " + file.length, IllegalStateException.class, () -> TestKit.typed(file),
                VerifiedCode::write);
        }
        TestKit.dueThrowAlone("write() behind a read() that fails", IllegalStateException.class,
            () -> failed(Arrays.copyOf(rich(), 40)), VerifiedCode::write);
    }

    private static VerifiedCode failed(int[] file) {
        VerifiedCode x = TestKit.typed(file);
        TestKit.due("it fails", x.read() == NONE ? 1 : 0, 0);
        return x;
    }

    private static void countingMethods() {
        TestKit.sentence("How many methods the program has; 0 without one.");
        TestKit.due("of a new object", new VerifiedCode().methods(), 0);
        TestKit.due("of what is only typed", TestKit.typed(plain()).methods(), 0);
        TestKit.due("behind a file that fails in its second method", failed(Arrays.copyOf(rich(), 40)).methods(), 0);
        TestKit.due("behind a file with a byte too many", failed(TestKit.bytes(plain(), 0)).methods(), 0);
        VerifiedCode x = new VerifiedCode();
        int[] counts = {4, 1, 3, 2, 4};
        for (int n : counts) {
            int[] file = TestKit.bytes(202, 0, n);
            for (int k = 0; k < n; k++) {
                file = TestKit.bytes(file, TestKit.method(NO, 0, 0, 0, RETURN));
            }
            TestKit.typeAll(x, file);
            TestKit.due("read() of " + n, x.read(), NONE);
            TestKit.due("methods() of " + n, x.methods(), n);
            x.clear();
            TestKit.due("methods() of " + n + " behind clear()", x.methods(), n);
            TestKit.due("read() of nothing", x.read(), 0);
            TestKit.due("methods() of " + n + " behind a read() that fails", x.methods(), n);
        }
    }
}
