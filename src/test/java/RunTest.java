import java.util.Arrays;

/** Promises 11, 12 and 13: run, result, steps. */
public final class RunTest {
    private static final int DONE = VerifiedCode.DONE;
    private static final int STUCK = VerifiedCode.STUCK;
    private static final int DIVISION = VerifiedCode.DIVISION;
    private static final int INDEX = VerifiedCode.INDEX;
    private static final int NULL = VerifiedCode.NULL;
    private static final int SIZE = VerifiedCode.SIZE;
    private static final int TIRED = VerifiedCode.TIRED;
    private static final int MIN = Integer.MIN_VALUE;
    private static final int MAX = Integer.MAX_VALUE;
    private static final int[] NO = {};
    private static final int[] II = {1, 1};
    private static final int[] R = {2};

    private RunTest() {
    }

    public static void main(String[] args) {
        wrongCalls();
        arguments();
        constantsAndBytes();
        arithmetic();
        comparisons();
        nullComparisons();
        stackInstructions();
        places();
        rows();
        rowsAreShared();
        sizesOfRows();
        stuckStacks();
        stuckKinds();
        stuckDepth();
        stuckReturns();
        stuckBehindTheEnd();
        stuckBeforeTheRest();
        calls();
        stuckCalls();
        tiredCalls();
        tiredSteps();
        results();
        runsLeaveNothing();
        TestKit.end("RunTest");
    }

    private static int[] single(int[] parameters, int returns, int depth, int places, int... code) {
        return TestKit.fileOf(TestKit.method(parameters, returns, depth, places, code));
    }

    /** Runs method 0 of the file on a new object: how it ended and how many steps it made. */
    private static VerifiedCode due(String what, int want, int wantSteps, int[] file, int... numbers) {
        VerifiedCode x = TestKit.loaded(what, file);
        int[] n = Arrays.copyOf(numbers, 3);
        TestKit.due(what + ": run", x.run(0, n[0], n[1], n[2]), want);
        TestKit.due(what + ": steps()", x.steps(), wantSteps);
        return x;
    }

    private static void dueResult(String what, int want, int wantSteps, int[] file, int... numbers) {
        TestKit.due(what + ": result()", due(what, DONE, wantSteps, file, numbers).result(), want);
    }

    private static void wrongCalls() {
        VerifiedCode x = TestKit.loaded("wrong calls", single(NO, 1, 1, 0, 16, 5, 172));
        x.run(0, 0, 0, 0);
        int[] wrong = {-1, 1, 4, MIN, MAX};
        for (int m : wrong) {
            TestKit.dueThrow("run(" + m + ", ..)", IllegalArgumentException.class, () -> x.run(m, 0, 0, 0));
        }
        TestKit.due("result() after the throws", x.result(), 5);
        TestKit.due("steps() after the throws", x.steps(), 2);
    }

    private static void arguments() {
        int[] all = {1, 1, 1};
        for (int k = 0; k < 3; k++) {
            dueResult("argument " + k, 11 * (k + 1), 2, single(all, 1, 1, 3, 21, k, 172), 11, 22, 33);
        }
        dueResult("an INT below 0", MIN, 2, single(all, 1, 1, 3, 21, 2, 172), 1, 2, MIN);
        int[] numbers = {0, 1, 6, 7, 8, 9, 15, MAX, -1, MIN};
        int[] lengths = {0, 1, 6, 7, 0, 1, 7, 7, -1, -1};
        for (int k = 0; k < numbers.length; k++) {
            dueResult("a ROW of " + numbers[k], lengths[k], 2, single(R, 2, 1, 1, 25, 0, 176), numbers[k]);
            for (int j = 0; j < lengths[k]; j++) {
                dueResult("element " + j + " of a ROW of " + numbers[k], numbers[k] + j, 4,
                    single(R, 1, 2, 1, 25, 0, 16, j, 46, 172), numbers[k]);
            }
            if (lengths[k] >= 0) {
                due("element behind a ROW of " + numbers[k], INDEX, 2,
                    single(R, 1, 2, 1, 25, 0, 16, lengths[k], 46, 172), numbers[k]);
            }
        }
        int[] mixed = {2, 1, 2};
        dueResult("a first ROW among others", 3, 3, single(mixed, 1, 1, 3, 25, 0, 190, 172), 3, 4, 5);
        dueResult("an INT among others", 4, 2, single(mixed, 1, 1, 3, 21, 1, 172), 3, 4, 5);
        dueResult("a last ROW among others", 5, 3, single(mixed, 1, 1, 3, 25, 2, 190, 172), 3, 4, 5);
        dueResult("the last ROW's element", 5, 4, single(mixed, 1, 2, 3, 25, 2, 16, 0, 46, 172), 3, 4, 5);
        due("numbers that no parameter has", DONE, 1, single(NO, 0, 0, 0, 177), 1, 2, 3);
        int[] parameters = {};
        for (int k = 0; k <= 3; k++) {
            due("no argument in the place behind " + k, STUCK, 0,
                single(parameters, 1, 1, k + 1, 21, k, 172), 1, 2, 3);
            parameters = TestKit.bytes(parameters, 1);
        }
    }

    private static void constantsAndBytes() {
        int[] numbers = {0, 1, -1, MIN};
        int[] more = {MAX, 0x12345678, 0x80FF00AA, 256};
        for (int k = 0; k < 4; k++) {
            int[] method = TestKit.method(NO, 1, 1, 0, TestKit.row(18, k, 172));
            dueResult("constant " + numbers[k], numbers[k], 2, TestKit.file(TestKit.constants(numbers), method));
            dueResult("constant " + more[k], more[k], 2, TestKit.file(TestKit.constants(more), method));
        }
        for (int c = 0; c < 256; c++) {
            dueResult("16 of " + c, (byte) c, 2, single(NO, 1, 1, 0, 16, c, 172));
            dueResult("132 by " + c, 1000 + (byte) c, 3, single(II, 1, 1, 2, 132, 1, c, 21, 1, 172), 5, 1000);
        }
        dueResult("132 wraps", MIN, 3, single(TestKit.row(1), 1, 1, 1, 132, 0, 1, 21, 0, 172), MAX);
    }

    private static int[] two(int code) {
        return single(II, 1, 2, 2, 21, 0, 21, 1, code, 172);
    }

    private static void arithmetic() {
        int[] some = {0, 1, -1, 2, 7, -7, 3, -3, 65536, MAX, MIN};
        for (int a : some) {
            for (int b : some) {
                dueResult(a + " + " + b, a + b, 4, two(96), a, b);
                dueResult(a + " - " + b, a - b, 4, two(100), a, b);
                dueResult(a + " * " + b, a * b, 4, two(104), a, b);
                if (b == 0) {
                    due(a + " / 0", DIVISION, 2, two(108), a, b);
                } else {
                    dueResult(a + " / " + b, (int) ((long) a / b), 4, two(108), a, b);
                }
            }
            dueResult("- " + a, -a, 3, single(TestKit.row(1), 1, 1, 1, 21, 0, 116, 172), a);
        }
    }

    private static boolean holds(int which, int a, int b) {
        boolean[] answers = {a == b, a != b, a < b, a >= b, a > b, a <= b};
        return answers[which];
    }

    private static void comparisons() {
        int[] some = {0, 1, -1, 5, MAX, MIN};
        for (int a : some) {
            for (int which = 0; which < 6; which++) {
                int[] one = single(TestKit.row(1), 1, 1, 1, 21, 0, 153 + which, 0, 6, 16, 10, 172, 16, 20, 172);
                dueResult(a + " by " + (153 + which), holds(which, a, 0) ? 20 : 10, 4, one, a);
                for (int b : some) {
                    int[] file = single(II, 1, 2, 2, 21, 0, 21, 1, 159 + which, 0, 6, 16, 10, 172, 16, 20, 172);
                    dueResult(a + ", " + b + " by " + (159 + which), holds(which, a, b) ? 20 : 10, 5, file, a, b);
                }
            }
        }
        dueResult("167 forward", 20, 3, single(NO, 1, 1, 0, 167, 0, 6, 16, 10, 172, 16, 20, 172));
        dueResult("167 back", 10, 4, single(NO, 1, 1, 0, 167, 0, 6, 16, 10, 172, 167, 255, 253));
    }

    private static void nullComparisons() {
        for (int number = -1; number <= 1; number++) {
            int[] isNull = single(R, 1, 1, 1, 25, 0, 198, 0, 6, 16, 10, 172, 16, 20, 172);
            int[] isNot = single(R, 1, 1, 1, 25, 0, 199, 0, 6, 16, 10, 172, 16, 20, 172);
            dueResult("198 of " + number, number < 0 ? 20 : 10, 4, isNull, number);
            dueResult("199 of " + number, number < 0 ? 10 : 20, 4, isNot, number);
        }
        dueResult("198 of null", 20, 4, single(NO, 1, 1, 0, 1, 198, 0, 6, 16, 10, 172, 16, 20, 172));
    }

    private static void stackInstructions() {
        dueResult("1", -1, 2, single(NO, 2, 1, 0, 1, 176));
        dueResult("87", 3, 4, single(NO, 1, 2, 0, 16, 3, 16, 4, 87, 172));
        dueResult("87 of a ROW", 3, 4, single(R, 1, 2, 1, 16, 3, 25, 0, 87, 172));
        dueResult("89", 9, 4, single(NO, 1, 2, 0, 16, 3, 89, 104, 172));
        dueResult("89 of null", 4, 6, single(NO, 1, 2, 0, 1, 89, 198, 0, 3, 87, 16, 4, 172));
        dueResult("95", -1, 5, single(NO, 1, 2, 0, 16, 4, 16, 3, 95, 100, 172));
        dueResult("95 of a ROW and an INT", 6, 5, single(R, 1, 2, 1, 16, 1, 25, 0, 95, 46, 172), 5);
        dueResult("95 leaves what is below", 50, 7,
            single(NO, 1, 3, 0, 16, 50, 16, 4, 16, 3, 95, 87, 87, 172));
    }

    private static void places() {
        dueResult("54", 8, 4, single(NO, 1, 1, 2, 16, 8, 54, 1, 21, 1, 172));
        dueResult("54 over a ROW", 8, 4, single(R, 1, 1, 1, 16, 8, 54, 0, 21, 0, 172), 3);
        dueResult("58", 3, 4, single(R, 2, 1, 2, 25, 0, 58, 1, 25, 1, 176), 3);
        dueResult("58 of null over an INT", -1, 4, single(II, 2, 1, 2, 1, 58, 1, 25, 1, 176), 3);
        dueResult("58 takes a null argument", -1, 4, single(R, 2, 1, 2, 25, 0, 58, 1, 25, 1, 176), -9);
        dueResult("132 of the right place", 12, 4, single(II, 1, 2, 2, 132, 1, 5, 132, 0, 1, 21, 1, 172), 1, 7);
        due("the place 54 took over is no ROW", STUCK, 2, single(R, 2, 1, 1, 16, 8, 54, 0, 25, 0, 176), 3);
    }

    private static void rows() {
        int[] element = single(TestKit.row(2, 1), 1, 2, 2, 25, 0, 21, 1, 46, 172);
        dueResult("46 of the first", 3, 4, element, 3, 0);
        dueResult("46 of the last", 5, 4, element, 3, 2);
        due("46 behind", INDEX, 2, element, 3, 3);
        due("46 before", INDEX, 2, element, 3, -1);
        due("46 far before", INDEX, 2, element, 3, MIN);
        due("46 far behind", INDEX, 2, element, 3, MAX);
        due("46 of an empty one", INDEX, 2, element, 0, 0);
        due("46 of null", NULL, 2, element, -1, 0);
        due("46 of null comes before its index", NULL, 2, element, -1, 99);
        int[] store = single(TestKit.row(2, 1, 1), 1, 3, 3, 25, 0, 21, 1, 21, 2, 79, 25, 0, 21, 1, 46, 172);
        dueResult("79 of the first", -77, 8, store, 3, 0, -77);
        dueResult("79 of the last", -77, 8, store, 3, 2, -77);
        due("79 behind", INDEX, 3, store, 3, 3, 1);
        due("79 before", INDEX, 3, store, 3, -1, 1);
        due("79 of null", NULL, 3, store, -1, 0, 1);
        due("79 of null comes before its index", NULL, 3, store, -1, -1, 1);
        dueResult("79 leaves the others", 4, 8,
            single(R, 1, 3, 1, 25, 0, 16, 0, 16, 99, 79, 25, 0, 16, 1, 46, 172), 3);
        int[] length = single(R, 1, 1, 1, 25, 0, 190, 172);
        dueResult("190", 6, 3, length, 14);
        dueResult("190 of an empty one", 0, 3, length, 8);
        due("190 of null", NULL, 1, length, -1);
    }

    private static void rowsAreShared() {
        int[] copy = single(R, 1, 3, 2,
            25, 0, 58, 1, 25, 1, 16, 0, 16, 50, 79, 25, 0, 16, 0, 46, 172);
        dueResult("a row in two places is one", 50, 10, copy, 3);
        int[] callee = TestKit.method(R, 0, 3, 1, TestKit.row(25, 0, 16, 1, 16, 60, 79, 177));
        int[] caller = TestKit.method(R, 1, 2, 1, TestKit.row(25, 0, 184, 1, 25, 0, 16, 1, 46, 172));
        dueResult("a row that was handed on is one", 60, 11, TestKit.file(TestKit.constants(), caller, callee), 3);
        int[] apart = single(TestKit.row(2, 2), 1, 3, 2,
            25, 0, 16, 0, 16, 50, 79, 25, 1, 16, 0, 46, 172);
        dueResult("two rows are two", 3, 8, apart, 3, 3);
        int[] made = single(TestKit.row(1), 1, 4, 2,
            16, 2, 188, 58, 1, 16, 2, 188, 16, 0, 16, 9, 79, 25, 1, 16, 0, 46, 172);
        dueResult("two new rows are two", 0, 12, made);
    }

    private static void sizesOfRows() {
        int[] make = single(TestKit.row(1), 2, 1, 1, 21, 0, 188, 176);
        dueResult("188 of 0", 0, 3, make, 0);
        dueResult("188 of 8", 8, 3, make, 8);
        due("188 of 9", SIZE, 1, make, 9);
        due("188 of -1", SIZE, 1, make, -1);
        due("188 of the least", SIZE, 1, make, MIN);
        due("188 of the greatest", SIZE, 1, make, MAX);
        dueResult("the last element of a new row is 0", 0, 5,
            single(NO, 1, 2, 0, 16, 8, 188, 16, 7, 46, 172));
        int[] eighth = {};
        for (int k = 0; k < 7; k++) {
            eighth = TestKit.bytes(eighth, 16, 8, 188, 87);
        }
        eighth = TestKit.bytes(eighth, 16, 8, 188, 58, 0, 25, 0, 16, 7, 16, 55, 79, 25, 0, 16, 7, 46, 172);
        dueResult("an eighth row of 8", 55, 7 * 3 + 3 + 4 + 4, single(NO, 1, 3, 1, eighth));
        int[] forever = single(NO, 0, 1, 0, 16, 0, 188, 87, 167, 255, 252);
        due("a ninth row", SIZE, 4 * 8 + 1, forever);
        int[] withOne = single(R, 0, 1, 1, 16, 0, 188, 87, 167, 255, 252);
        due("a ninth row, an argument counts", SIZE, 4 * 7 + 1, withOne, 3);
        due("a ninth row, an empty argument counts", SIZE, 4 * 7 + 1, withOne, 0);
        due("a ninth row, null does not count", SIZE, 4 * 8 + 1, withOne, -1);
        int[] withThree = single(TestKit.row(2, 2, 2), 0, 1, 3, 16, 0, 188, 87, 167, 255, 252);
        due("a ninth row, three arguments count", SIZE, 4 * 5 + 1, withThree, 1, 2, 3);
        due("a ninth row, two of three arguments count", SIZE, 4 * 6 + 1, withThree, 1, -2, 3);
        int[] callee = TestKit.method(NO, 0, 1, 0, TestKit.row(16, 1, 188, 177));
        int[] caller = TestKit.method(NO, 0, 1, 0, TestKit.row(184, 1, 167, 255, 254));
        due("a ninth row, made by calls", SIZE, 5 * 8 + 2, TestKit.file(TestKit.constants(), caller, callee));
    }

    private static void stuckStacks() {
        int[] one = {54, 58, 87, 89, 116, 153, 154, 155, 156, 157, 158, 188, 190, 198, 199, 172, 176};
        for (int code : one) {
            int returns = code == 172 ? 1 : code == 176 ? 2 : 0;
            due(code + " of an empty stack", STUCK, 0, single(NO, returns, 6, 1, whole(code)));
        }
        int[] two = {46, 95, 96, 100, 104, 108, 159, 160, 161, 162, 163, 164};
        for (int code : two) {
            due(code + " of an empty stack", STUCK, 0, single(NO, 0, 6, 1, whole(code)));
            due(code + " of one", STUCK, 1, single(NO, 0, 6, 1, TestKit.bytes(16, 1, whole(code))));
        }
        due("46 of one ROW", STUCK, 1, single(R, 0, 6, 1, 25, 0, 46), 3);
        due("79 of none", STUCK, 0, single(R, 0, 6, 1, 79), 3);
        due("79 of two INTs", STUCK, 2, single(R, 0, 6, 1, 16, 0, 16, 0, 79), 3);
        due("79 of a ROW and an INT", STUCK, 2, single(R, 0, 6, 1, 25, 0, 16, 0, 79), 3);
    }

    /** The instruction with its operands 0. */
    private static int[] whole(int code) {
        int length = code >= 153 && code <= 164 || code == 198 || code == 199 ? 3 : code == 54 || code == 58 ? 2 : 1;
        int[] row = new int[length];
        row[0] = code;
        return row;
    }

    private static void stuckKinds() {
        int[] ints = {54, 116, 153, 154, 155, 156, 157, 158, 188};
        for (int code : ints) {
            due(code + " of a ROW", STUCK, 1, single(R, 0, 6, 1, TestKit.bytes(25, 0, whole(code))), 3);
            due(code + " of null", STUCK, 1, single(NO, 0, 6, 1, TestKit.bytes(1, whole(code))));
        }
        int[] rows = {58, 190, 198, 199};
        for (int code : rows) {
            due(code + " of an INT", STUCK, 1, single(NO, 0, 6, 1, TestKit.bytes(16, 0, whole(code))));
        }
        int[] two = {96, 100, 104, 108, 159, 160, 161, 162, 163, 164};
        for (int code : two) {
            due(code + " of INT ROW", STUCK, 2, single(R, 0, 6, 1, TestKit.bytes(16, 0, 25, 0, whole(code))), 3);
            due(code + " of ROW INT", STUCK, 2, single(R, 0, 6, 1, TestKit.bytes(25, 0, 16, 0, whole(code))), 3);
            due(code + " of null INT", STUCK, 2, single(NO, 0, 6, 1, TestKit.bytes(1, 16, 0, whole(code))));
        }
        due("46 of INT INT", STUCK, 2, single(NO, 0, 6, 0, 16, 0, 16, 0, 46));
        due("46 of ROW null", STUCK, 2, single(R, 0, 6, 1, 25, 0, 1, 46), 3);
        due("46 of null null", STUCK, 2, single(NO, 0, 6, 0, 1, 1, 46));
        due("79 of INT INT INT", STUCK, 3, single(NO, 0, 6, 0, 16, 0, 16, 0, 16, 0, 79));
        due("79 of ROW null INT", STUCK, 3, single(R, 0, 6, 1, 25, 0, 1, 16, 0, 79), 3);
        due("79 of ROW INT null", STUCK, 3, single(R, 0, 6, 1, 25, 0, 16, 0, 1, 79), 3);
        due("79 of null INT null", STUCK, 3, single(NO, 0, 6, 1, 1, 16, 0, 1, 79));
        due("21 of NOTHING", STUCK, 0, single(NO, 0, 6, 1, 21, 0));
        due("21 of a ROW", STUCK, 0, single(R, 0, 6, 1, 21, 0), 3);
        due("21 of null", STUCK, 0, single(R, 0, 6, 1, 21, 0), -3);
        due("25 of NOTHING", STUCK, 0, single(NO, 0, 6, 1, 25, 0));
        due("25 of an INT", STUCK, 0, single(TestKit.row(1), 0, 6, 1, 25, 0), 0);
        due("132 of NOTHING", STUCK, 0, single(NO, 0, 6, 1, 132, 0, 1));
        due("132 of a ROW", STUCK, 0, single(R, 0, 6, 1, 132, 0, 1), 3);
        due("132 of null", STUCK, 0, single(R, 0, 6, 1, 132, 0, 1), -3);
    }

    private static void stuckDepth() {
        due("1 at depth 0", STUCK, 0, single(NO, 0, 0, 0, 1, 177));
        due("16 at depth 0", STUCK, 0, single(NO, 0, 0, 0, 16, 1, 177));
        due("21 at depth 0", STUCK, 0, single(TestKit.row(1), 0, 0, 1, 21, 0, 177), 1);
        due("25 at depth 0", STUCK, 0, single(R, 0, 0, 1, 25, 0, 177), 1);
        due("18 at depth 0", STUCK, 0,
            TestKit.file(TestKit.constants(4), TestKit.method(NO, 0, 0, 0, TestKit.row(18, 0, 177))));
        due("89 at depth 1", STUCK, 1, single(NO, 0, 1, 0, 1, 89, 177));
        due("89 at depth 2", DONE, 3, single(NO, 0, 2, 0, 1, 89, 177));
        due("six at depth 6", DONE, 7, single(NO, 0, 6, 0, 1, 1, 1, 1, 1, 1, 177));
        due("seven at depth 6", STUCK, 6, single(NO, 0, 6, 0, 1, 1, 1, 1, 1, 1, 1, 177));
        due("116 at depth 1", DONE, 3, single(NO, 0, 1, 0, 16, 1, 116, 177));
        due("188 at depth 1", DONE, 3, single(NO, 0, 1, 0, 16, 1, 188, 177));
    }

    private static void stuckReturns() {
        int[][] codes = {{177}, {16, 1, 172}, {1, 176}};
        for (int returns = 0; returns <= 2; returns++) {
            for (int k = 0; k <= 2; k++) {
                boolean fits = k == returns;
                int before = k == 0 ? 0 : 1;
                due("return " + k + " in a method that returns " + returns, fits ? DONE : STUCK,
                    fits ? before + 1 : before, single(NO, returns, 1, 0, codes[k]));
            }
        }
        due("172 of a ROW", STUCK, 1, single(R, 1, 1, 1, 25, 0, 172), 3);
        due("172 of null", STUCK, 1, single(NO, 1, 1, 1, 1, 172));
        due("176 of an INT", STUCK, 1, single(NO, 2, 1, 1, 16, 1, 176));
        int[] callee = TestKit.method(NO, 0, 1, 0, TestKit.row(16, 1, 172));
        int[] caller = TestKit.method(NO, 1, 1, 0, TestKit.row(184, 1, 16, 2, 172));
        due("172 in a called method that returns nothing", STUCK, 2,
            TestKit.file(TestKit.constants(), caller, callee));
    }

    private static void stuckBehindTheEnd() {
        due("behind the end", STUCK, 1, single(NO, 0, 1, 0, 1));
        due("behind the end by 153", STUCK, 2, single(NO, 0, 1, 0, 16, 1, 153, 255, 254));
        int[] callee = TestKit.method(NO, 0, 1, 0, TestKit.row(1));
        int[] caller = TestKit.method(NO, 0, 1, 0, TestKit.row(184, 1, 177));
        due("behind the end of a called method", STUCK, 2, TestKit.file(TestKit.constants(), caller, callee));
        due("behind the end, back from a call", STUCK, 2, TestKit.file(TestKit.constants(),
            TestKit.method(NO, 0, 1, 0, TestKit.row(184, 1)), TestKit.method(NO, 0, 0, 0, TestKit.row(177))));
    }

    private static void stuckBeforeTheRest() {
        due("a ninth row of null", STUCK, 8 * 3 + 1, single(NO, 0, 1, 0, ninthOfNull()));
        due("108 of ROW by 0", STUCK, 2, single(R, 1, 2, 1, 25, 0, 16, 0, 108, 172), 3);
        due("a call too many that is stuck by its argument", STUCK, 9, deepCall());
        due("a call too many that is stuck by the depth", STUCK, 4, TestKit.file(TestKit.constants(),
            TestKit.method(NO, 0, 1, 0, TestKit.row(184, 1, 177)),
            TestKit.method(NO, 0, 1, 0, TestKit.row(184, 2, 177)),
            TestKit.method(NO, 0, 1, 0, TestKit.row(184, 3, 177)),
            TestKit.method(NO, 1, 1, 0, TestKit.row(1, 184, 3, 172))));
    }

    private static int[] ninthOfNull() {
        int[] code = {};
        for (int k = 0; k < 8; k++) {
            code = TestKit.bytes(code, 16, 0, 188, 87);
        }
        return TestKit.bytes(code, 1, 188);
    }

    /** Four methods under way, the last of which hands null on to a fifth that has an INT. */
    private static int[] deepCall() {
        int[] handOn = TestKit.method(TestKit.row(1), 0, 2, 1, TestKit.row(21, 0, 184, 1, 177));
        int[] second = TestKit.method(TestKit.row(1), 0, 2, 1, TestKit.row(21, 0, 184, 2, 177));
        int[] third = TestKit.method(TestKit.row(1), 0, 2, 1, TestKit.row(21, 0, 184, 3, 177));
        int[] fourth = TestKit.method(TestKit.row(1), 0, 2, 1, TestKit.row(16, 1, 87, 1, 184, 3, 177));
        return TestKit.file(TestKit.constants(), handOn, second, third, fourth);
    }

    private static void calls() {
        int[] minus = TestKit.method(II, 1, 2, 2, TestKit.row(21, 0, 21, 1, 100, 172));
        int[] caller = TestKit.method(II, 1, 3, 2, TestKit.row(16, 5, 21, 0, 21, 1, 184, 1, 104, 172));
        dueResult("the last parameter is the highest", 5 * (10 - 3), 10,
            TestKit.file(TestKit.constants(), caller, minus), 10, 3);
        int[] sum = TestKit.method(TestKit.row(1, 2, 1), 1, 3, 3,
            TestKit.row(21, 0, 25, 1, 190, 96, 21, 2, 96, 172));
        int[] three = TestKit.method(TestKit.row(2), 1, 3, 1, TestKit.row(16, 100, 25, 0, 16, 20, 184, 1, 172));
        dueResult("three parameters", 123, 12, TestKit.file(TestKit.constants(), three, sum), 3);
        int[] nothing = TestKit.method(NO, 0, 0, 0, TestKit.row(177));
        int[] callsNothing = TestKit.method(NO, 1, 1, 0, TestKit.row(16, 4, 184, 1, 172));
        dueResult("a method that returns nothing puts nothing", 4, 4,
            TestKit.file(TestKit.constants(), callsNothing, nothing));
        int[] makesRow = TestKit.method(NO, 2, 1, 0, TestKit.row(16, 5, 188, 176));
        int[] usesRow = TestKit.method(NO, 1, 1, 0, TestKit.row(184, 1, 190, 172));
        dueResult("a method that returns a ROW", 5, 6, TestKit.file(TestKit.constants(), usesRow, makesRow));
        int[] givesNull = TestKit.method(NO, 2, 1, 0, TestKit.row(1, 176));
        due("a method that returns null", NULL, 3, TestKit.file(TestKit.constants(), usesRow, givesNull));
        int[] leaves = TestKit.method(NO, 1, 3, 0, TestKit.row(16, 7, 16, 8, 16, 9, 172));
        int[] takesOne = TestKit.method(NO, 1, 2, 0, TestKit.row(16, 1, 184, 1, 100, 172));
        dueResult("what a method leaves is gone", -8, 8, TestKit.file(TestKit.constants(), takesOne, leaves));
        int[] own = TestKit.method(TestKit.row(1), 0, 1, 1, TestKit.row(132, 0, 9, 177));
        int[] keeps = TestKit.method(TestKit.row(1), 1, 1, 1, TestKit.row(21, 0, 184, 1, 21, 0, 172));
        dueResult("places are a method's own", 4, 6, TestKit.file(TestKit.constants(), keeps, own), 4);
        int[] fresh = TestKit.method(NO, 0, 1, 1, TestKit.row(21, 0, 177));
        int[] filled = TestKit.method(TestKit.row(1), 0, 1, 1, TestKit.row(184, 1, 177));
        due("places have NOTHING in a called method", STUCK, 1, TestKit.file(TestKit.constants(), filled, fresh), 4);
        int[] twice = TestKit.method(NO, 0, 1, 1, TestKit.row(16, 1, 54, 0, 177));
        int[] then = TestKit.method(NO, 0, 1, 0, TestKit.row(184, 1, 184, 2, 177));
        due("places have NOTHING where an earlier call was", STUCK, 5,
            TestKit.file(TestKit.constants(), then, twice, fresh));
        int[] secondMethod = TestKit.file(TestKit.constants(), nothing, minus);
        VerifiedCode x = TestKit.loaded("the second method", secondMethod);
        TestKit.due("run(1, 9, 4, 0)", x.run(1, 9, 4, 0), DONE);
        TestKit.due("its result()", x.result(), 5);
    }

    private static void stuckCalls() {
        int[] minus = TestKit.method(II, 1, 2, 2, TestKit.row(21, 0, 21, 1, 100, 172));
        int[] takesRow = TestKit.method(R, 0, 1, 1, TestKit.row(177));
        due("184 of too few", STUCK, 1, TestKit.file(TestKit.constants(),
            TestKit.method(NO, 0, 6, 0, TestKit.row(16, 1, 184, 1, 177)), minus));
        due("184 of a first null for INT", STUCK, 2, TestKit.file(TestKit.constants(),
            TestKit.method(NO, 0, 6, 0, TestKit.row(1, 16, 1, 184, 1, 177)), minus));
        due("184 of a second null for INT", STUCK, 2, TestKit.file(TestKit.constants(),
            TestKit.method(NO, 0, 6, 0, TestKit.row(16, 1, 1, 184, 1, 177)), minus));
        due("184 of an INT for ROW", STUCK, 1, TestKit.file(TestKit.constants(),
            TestKit.method(NO, 0, 6, 0, TestKit.row(16, 1, 184, 1, 177)), takesRow));
        due("184 of null for ROW", DONE, 4, TestKit.file(TestKit.constants(),
            TestKit.method(NO, 0, 6, 0, TestKit.row(1, 184, 1, 177)), takesRow));
        due("184 that would put too much", STUCK, 1, TestKit.file(TestKit.constants(),
            TestKit.method(NO, 0, 1, 0, TestKit.row(1, 184, 1, 177)),
            TestKit.method(NO, 1, 1, 0, TestKit.row(16, 1, 172))));
        due("184 that puts what it may", DONE, 5, TestKit.file(TestKit.constants(),
            TestKit.method(NO, 0, 2, 0, TestKit.row(1, 184, 1, 177)),
            TestKit.method(NO, 1, 1, 0, TestKit.row(16, 1, 172))));
        due("a called method has its own depth", DONE, 5, TestKit.file(TestKit.constants(),
            TestKit.method(NO, 0, 0, 0, TestKit.row(184, 1, 177)),
            TestKit.method(NO, 0, 2, 0, TestKit.row(1, 1, 177))));
        due("a called method's depth counts", STUCK, 2, TestKit.file(TestKit.constants(),
            TestKit.method(NO, 0, 6, 0, TestKit.row(184, 1, 177)),
            TestKit.method(NO, 0, 1, 0, TestKit.row(1, 1, 177))));
    }

    private static void tiredCalls() {
        due("itself without end", TIRED, 3, single(NO, 0, 0, 0, 184, 0, 177));
        VerifiedCode x = TestKit.loaded("countdown", single(TestKit.row(1), 0, 2, 1,
            21, 0, 154, 0, 4, 177, 132, 0, 255, 21, 0, 184, 0, 177));
        TestKit.due("three calls deep", x.run(0, 3, 0, 0), DONE);
        TestKit.due("its steps()", x.steps(), 3 * 5 + 3 + 3);
        TestKit.due("four calls deep", x.run(0, 4, 0, 0), TIRED);
        TestKit.due("its steps()", x.steps(), 3 * 5 + 4);
        TestKit.due("three calls deep again", x.run(0, 3, 0, 0), DONE);
        int[] nothing = TestKit.method(NO, 0, 0, 0, TestKit.row(177));
        int[] many = TestKit.method(NO, 0, 0, 0,
            TestKit.row(184, 1, 184, 1, 184, 1, 184, 1, 184, 1, 184, 1, 177));
        due("six calls, one behind the other", DONE, 13, TestKit.file(TestKit.constants(), many, nothing));
    }

    private static void tiredSteps() {
        due("forever", TIRED, 200, single(NO, 0, 0, 0, 167, 0, 0));
        // 3 steps a round (132, 21, 157), then the rest.
        for (int rest = 0; rest <= 4; rest++) {
            int[] code = {132, 0, 255, 21, 0, 157, 255, 251};
            for (int k = 0; k < rest; k++) {
                code = TestKit.bytes(code, 132, 0, 0);
            }
            int[] file = single(TestKit.row(1), 0, 1, 1, TestKit.bytes(code, 177));
            int steps = 66 * 3 + rest + 1;
            due("ends in " + steps + " steps", steps <= 200 ? DONE : TIRED, Math.min(200, steps), file, 66);
            int[] stuck = single(TestKit.row(1), 0, 1, 1, TestKit.bytes(code, 87));
            due("stuck behind " + (steps - 1), steps - 1 < 200 ? STUCK : TIRED, Math.min(200, steps - 1), stuck, 66);
            int[] open = single(TestKit.row(1), 0, 1, 1, code);
            due("behind the end after " + (steps - 1), steps - 1 < 200 ? STUCK : TIRED, Math.min(200, steps - 1),
                open, 66);
        }
        // The steps of called methods count too.
        int[] nothing = TestKit.method(NO, 0, 0, 0, TestKit.row(177));
        due("calls without end", TIRED, 200, TestKit.file(TestKit.constants(),
            TestKit.method(NO, 0, 0, 0, TestKit.row(184, 1, 167, 255, 254)), nothing));
        due("a called method without end", TIRED, 200, TestKit.file(TestKit.constants(),
            TestKit.method(NO, 0, 0, 0, TestKit.row(184, 1, 177)),
            TestKit.method(NO, 0, 0, 0, TestKit.row(167, 0, 0))));
    }

    private static void results() {
        int[] gives = TestKit.method(TestKit.row(1), 1, 1, 1, TestKit.row(21, 0, 172));
        int[] row = TestKit.method(R, 2, 1, 1, TestKit.row(25, 0, 176));
        int[] nothing = TestKit.method(NO, 0, 0, 0, TestKit.row(177));
        int[] stuck = TestKit.method(TestKit.row(1), 1, 2, 1, TestKit.row(21, 0, 87, 87, 172));
        VerifiedCode x = TestKit.loaded("results", TestKit.file(TestKit.constants(), gives, row, nothing, stuck));
        TestKit.due("result() before", x.result(), 0);
        TestKit.due("steps() before", x.steps(), 0);
        TestKit.due("stuck", x.run(3, 5, 0, 0), STUCK);
        TestKit.due("result() after a stuck one alone", x.result(), 0);
        TestKit.due("steps() of the stuck one", x.steps(), 2);
        x.run(0, -44, 0, 0);
        TestKit.due("an INT", x.result(), -44);
        TestKit.due("stuck again", x.run(3, 5, 0, 0), STUCK);
        TestKit.due("result() is of the latest DONE", x.result(), -44);
        TestKit.due("steps() is of the latest run", x.steps(), 2);
        x.run(1, 12, 0, 0);
        TestKit.due("a ROW", x.result(), 4);
        x.run(1, -1, 0, 0);
        TestKit.due("null", x.result(), VerifiedCode.NONE);
        x.run(2, 1, 0, 0);
        TestKit.due("nothing", x.result(), 0);
        TestKit.due("steps() of one", x.steps(), 1);
        x.run(0, 31, 0, 0);
        TestKit.typeAll(x, single(NO, 0, 1, 0, 1));
        TestKit.due("read another", x.read(), VerifiedCode.NONE);
        TestKit.due("result() after reading", x.result(), 31);
        TestKit.due("steps() after reading", x.steps(), 2);
        TestKit.due("stuck behind the end", x.run(0, 0, 0, 0), STUCK);
        TestKit.due("result() after reading and a stuck run", x.result(), 31);
        x.clear();
        x.write();
        TestKit.due("result() after writing", x.result(), 31);
        TestKit.due("steps() after writing", x.steps(), 1);
    }

    private static void runsLeaveNothing() {
        int[] fills = TestKit.method(NO, 0, 6, 2, TestKit.row(16, 3, 54, 0, 1, 1, 16, 3, 188, 58, 1, 87, 87, 87));
        int[] looks = TestKit.method(NO, 1, 2, 2, TestKit.row(21, 0, 172));
        int[] eight = TestKit.method(NO, 1, 2, 0, TestKit.row(16, 8, 188, 16, 7, 46, 172));
        int[] stores = TestKit.method(NO, 0, 3, 0, TestKit.row(16, 8, 188, 16, 7, 16, 66, 79, 177));
        VerifiedCode x = TestKit.loaded("leaves nothing",
            TestKit.file(TestKit.constants(), fills, looks, eight, stores));
        TestKit.due("a stuck run", x.run(0, 0, 0, 0), STUCK);
        TestKit.due("places have NOTHING in the next", x.run(1, 0, 0, 0), STUCK);
        for (int k = 0; k < 20; k++) {
            TestKit.due("rows are counted anew, " + k, x.run(3, 0, 0, 0), DONE);
        }
        TestKit.due("a new row", x.run(2, 0, 0, 0), DONE);
        TestKit.due("has elements 0", x.result(), 0);
        for (int k = 0; k < 8; k++) {
            VerifiedCode y = TestKit.loaded("element " + k, TestKit.file(TestKit.constants(),
                TestKit.method(NO, 0, 3, 0, TestKit.row(16, 8, 188, 16, k, 16, 66, 79, 177)),
                TestKit.method(NO, 1, 2, 0, TestKit.row(16, 8, 188, 16, k, 46, 172))));
            y.run(0, 0, 0, 0);
            TestKit.due("a new row in a second run", y.run(1, 0, 0, 0), DONE);
            TestKit.due("its element " + k, y.result(), 0);
        }
    }
}
