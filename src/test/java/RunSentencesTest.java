import java.util.Arrays;

/** Each sentence of promises 11 to 13, and of RUNNING, that names a boundary case. */
public final class RunSentencesTest {
    private static final int DONE = VerifiedCode.DONE;
    private static final int STUCK = VerifiedCode.STUCK;
    private static final int DIVISION = VerifiedCode.DIVISION;
    private static final int INDEX = VerifiedCode.INDEX;
    private static final int NULL = VerifiedCode.NULL;
    private static final int SIZE = VerifiedCode.SIZE;
    private static final int TIRED = VerifiedCode.TIRED;
    private static final int NONE = VerifiedCode.NONE;
    private static final int MIN = Integer.MIN_VALUE;
    private static final int MAX = Integer.MAX_VALUE;
    private static final int[] NO = {};
    private static final int[] RETURN = {177};

    /** Places 0 to 2 of the methods under test: a row of 3, 4, 5, the INT 0, null; place 3 has NOTHING. */
    private static final int[] PARAMETERS = {2, 1, 2};
    private static final int PLACES = 4;

    /** An instruction, what it takes (I INT, R ROW, A any), how many it puts. */
    private record Line(String name, int[] bytes, String takes, int puts) {
    }

    private static Line line(String takes, int puts, int... bytes) {
        return new Line(Arrays.toString(bytes), bytes, takes, puts);
    }

    /** All instructions but those that return; targets are behind them. On INTs 1 none of them ends a run. */
    private static final Line[] TABLE = {
        line("", 1, 1), line("", 1, 16, 128), line("", 1, 18, 0), line("", 1, 21, 1), line("", 1, 25, 0),
        line("", 1, 25, 2), line("I", 0, 54, 3), line("R", 0, 58, 3), line("RI", 1, 46), line("RII", 0, 79),
        line("A", 0, 87), line("A", 2, 89), line("AA", 2, 95), line("II", 1, 96), line("II", 1, 100),
        line("II", 1, 104), line("II", 1, 108), line("I", 1, 116), line("", 0, 132, 1, 1),
        line("I", 0, 153, 0, 3), line("I", 0, 154, 0, 3), line("I", 0, 155, 0, 3), line("I", 0, 156, 0, 3),
        line("I", 0, 157, 0, 3), line("I", 0, 158, 0, 3), line("II", 0, 159, 0, 3), line("II", 0, 160, 0, 3),
        line("II", 0, 161, 0, 3), line("II", 0, 162, 0, 3), line("II", 0, 163, 0, 3), line("II", 0, 164, 0, 3),
        line("", 0, 167, 0, 3), line("R", 0, 198, 0, 3), line("R", 0, 199, 0, 3), line("", 1, 184, 1),
        line("IRI", 1, 184, 2), line("R", 0, 184, 3), line("I", 1, 188), line("R", 1, 190),
    };

    private RunSentencesTest() {
    }

    public static void main(String[] args) {
        placesHaveNothing();
        rowsAreWhatTheyAre();
        fewerThanTaken();
        valueNotOfItsKind();
        placeNotOfItsKind();
        moreThanTheDepth();
        returnNotTheMethods();
        behindItsEnd();
        divisionByZero();
        intsThatWrap();
        comparisons();
        nullComparisons();
        stackInstructions();
        indexes();
        nulls();
        sizes();
        elementsOfNewRows();
        ninthRow();
        fiveMethods();
        twoHundred();
        stuckBeforeTheRest();
        putByTheCall();
        nullBeforeIndex();
        arguments();
        noProgram();
        noSuchMethod();
        resultBefore();
        resultOfTheLatestDone();
        resultOfEachKind();
        stepsBefore();
        stepsOfEachEnd();
        TestKit.end("RunSentencesTest");
    }

    private static int[] filled(int count, int b) {
        int[] row = new int[count];
        Arrays.fill(row, b);
        return row;
    }

    private static int[] single(int[] parameters, int returns, int depth, int places, int... code) {
        return TestKit.fileOf(TestKit.method(parameters, returns, depth, places, code));
    }

    /** Runs method 0 of the file on a new object: how it ended and how many steps it made. */
    private static VerifiedCode due(String what, int want, int wantSteps, int[] file, int... numbers) {
        VerifiedCode x = TestKit.loaded(what, file);
        int[] n = Arrays.copyOf(numbers, 3);
        TestKit.due(what + ": run", x.run(0, n[0], n[1], n[2]), want);
        TestKit.due(what + ": steps()", x.steps(), wantSteps);
        return x;
    }

    private static void dueResult(String what, int want, int[] file, int... numbers) {
        VerifiedCode x = TestKit.loaded(what, file);
        int[] n = Arrays.copyOf(numbers, 3);
        TestKit.due(what + ": run", x.run(0, n[0], n[1], n[2]), DONE);
        TestKit.due(what + ": result()", x.result(), want);
    }

    /** Methods 1 to 3 are there to be called: () -> INT, (INT ROW INT) -> ROW, (ROW) -> nothing. */
    private static int[] fileAround(int depth, int returns, int[] code) {
        return TestKit.file(TestKit.constants(7), TestKit.method(PARAMETERS, returns, depth, PLACES, code),
            TestKit.method(NO, 1, 1, 0, TestKit.row(16, 1, 172)),
            TestKit.method(TestKit.row(1, 2, 1), 2, 1, 3, TestKit.row(25, 1, 176)),
            TestKit.method(TestKit.row(2), 0, 0, 1, RETURN));
    }

    /** Puts values of these kinds: INTs 1, the row, null (N). */
    private static int[] putting(String kinds) {
        int[] code = {};
        for (char letter : kinds.toCharArray()) {
            code = TestKit.bytes(code, letter == 'N' ? TestKit.row(1) : letter == 'R' ? TestKit.row(25, 0)
                : TestKit.row(16, 1));
        }
        return code;
    }

    /** The instruction behind what puts these kinds, then 177: DONE, or STUCK in the instruction itself. */
    private static void dueOn(Line line, String kinds, int depth, boolean good) {
        String what = line.name() + " on " + kinds + " at depth " + depth;
        int[] file = fileAround(depth, 0, TestKit.bytes(putting(kinds), line.bytes(), 177));
        VerifiedCode x = TestKit.loaded(what, file);
        TestKit.due(what + ": run", x.run(0, 3, 0, -1), good ? DONE : STUCK);
        if (!good) {
            TestKit.due(what + ": steps()", x.steps(), kinds.length());
        }
    }

    /** What it takes, with any being an INT. */
    private static String kindsFor(Line line) {
        return line.takes().replace('A', 'I');
    }

    private static void placesHaveNothing() {
        TestKit.sentence("places have NOTHING, but for the arguments.");
        int[] parameters = {};
        for (int n = 0; n <= 3; n++) {
            for (int p = n; p < 6; p++) {
                due("21 " + p + " behind " + n, STUCK, 0, single(parameters, 0, 1, 6, 21, p, 177), 1, 2, 3);
                due("25 " + p + " behind " + n, STUCK, 0, single(parameters, 0, 1, 6, 25, p, 177), 1, 2, 3);
                due("132 " + p + " behind " + n, STUCK, 0, single(parameters, 0, 1, 6, 132, p, 1, 177), 1, 2, 3);
                int[] caller = TestKit.method(TestKit.row(1, 1, 1), 0, 3, 6, TestKit.bytes(
                    16, 7, 54, 3, 16, 8, 54, 4, 16, 9, 54, 5, putting("I".repeat(n)), 184, 1, 177));
                int[] callee = TestKit.method(parameters, 0, 1, 6, TestKit.row(21, p, 177));
                due("21 " + p + " behind " + n + " in a called method", STUCK, 6 + n + 1,
                    TestKit.file(TestKit.constants(), caller, callee), 1, 2, 3);
            }
            for (int p = 0; p < n; p++) {
                due("21 " + p + " of " + n, DONE, 2, single(parameters, 0, 1, 6, 21, p, 177), 1, 2, 3);
            }
            parameters = TestKit.bytes(parameters, 1);
        }
        // What a run left in places is not there in the next.
        VerifiedCode x = TestKit.loaded("two runs", TestKit.file(TestKit.constants(),
            TestKit.method(NO, 0, 1, 6, TestKit.row(16, 1, 54, 5, 1, 58, 0, 177)),
            TestKit.method(NO, 0, 1, 6, TestKit.row(21, 5, 177)), TestKit.method(NO, 0, 1, 6, TestKit.row(25, 0, 177))));
        TestKit.due("the first run", x.run(0, 0, 0, 0), DONE);
        TestKit.due("an INT of the first run", x.run(1, 0, 0, 0), STUCK);
        TestKit.due("the first run again", x.run(0, 0, 0, 0), DONE);
        TestKit.due("a null of the first run", x.run(2, 0, 0, 0), STUCK);
    }

    private static void rowsAreWhatTheyAre() {
        TestKit.sentence("values are INTs, NULL and ROWs (which are what they are, whoever has them);");
        // The element 1 becomes 9 through one who has the row, and is looked at through another.
        int[] look = {25, 0, 16, 1, 46, 172};
        dueResult("in another place", 9, single(TestKit.row(2), 1, 3, 2,
            TestKit.bytes(25, 0, 58, 1, 25, 1, 16, 1, 16, 9, 79, look)), 3);
        dueResult("twice on the stack", 9, single(TestKit.row(2), 1, 4, 1,
            25, 0, 89, 16, 1, 16, 9, 79, 16, 1, 46, 172), 3);
        int[] changes = TestKit.method(TestKit.row(2), 0, 3, 1, TestKit.row(25, 0, 16, 1, 16, 9, 79, 177));
        dueResult("in a called method", 9, TestKit.file(TestKit.constants(),
            TestKit.method(TestKit.row(2), 1, 2, 1, TestKit.bytes(25, 0, 184, 1, look)), changes), 3);
        int[] same = TestKit.method(TestKit.row(2), 2, 3, 1, TestKit.row(25, 0, 176));
        dueResult("back from a called method", 9, TestKit.file(TestKit.constants(),
            TestKit.method(TestKit.row(2), 1, 3, 1, TestKit.bytes(25, 0, 184, 1, 16, 1, 16, 9, 79, look)), same), 3);
        dueResult("another row of the same number", 4, single(TestKit.row(2, 2), 1, 3, 2,
            TestKit.bytes(25, 1, 16, 1, 16, 9, 79, look)), 3, 3);
        dueResult("another new row", 4, single(TestKit.row(2), 1, 3, 1,
            TestKit.bytes(16, 8, 188, 16, 1, 16, 9, 79, look)), 3);
    }

    private static void fewerThanTaken() {
        TestKit.sentence("A run is STUCK when the stack has fewer values than an instruction takes,");
        for (Line line : TABLE) {
            String kinds = kindsFor(line);
            for (int less = 0; less <= kinds.length(); less++) {
                dueOn(line, kinds.substring(less), 6, less == 0);
                dueOn(line, kinds.substring(0, kinds.length() - less), 6, less == 0);
            }
        }
        due("172 of none", STUCK, 0, fileAround(6, 1, TestKit.row(172)));
        due("176 of none", STUCK, 0, fileAround(6, 2, TestKit.row(176)));
        // A called method has a stack of its own.
        due("its caller's value", STUCK, 2, TestKit.file(TestKit.constants(),
            TestKit.method(NO, 0, 6, 0, TestKit.row(1, 184, 1, 177)), TestKit.method(NO, 0, 6, 0, TestKit.row(87, 177))));
    }

    private static void valueNotOfItsKind() {
        TestKit.sentence("when a value or a place is not of the kind that it needs, (a value)");
        for (Line line : TABLE) {
            StringBuilder kinds = new StringBuilder(kindsFor(line));
            for (int k = 0; k < kinds.length(); k++) {
                char needed = line.takes().charAt(k);
                char before = kinds.charAt(k);
                kinds.setCharAt(k, 'I');
                dueOn(line, kinds.toString(), 6, needed != 'R');
                kinds.setCharAt(k, 'R');
                dueOn(line, kinds.toString(), 6, needed != 'I');
                kinds.setCharAt(k, 'N');
                boolean needsRow = line.bytes()[0] == 46 || line.bytes()[0] == 79 || line.bytes()[0] == 190;
                if (needed != 'R' || !needsRow) {
                    dueOn(line, kinds.toString(), 6, needed != 'I');
                }
                kinds.setCharAt(k, before);
            }
        }
        due("172 of a row", STUCK, 1, fileAround(6, 1, TestKit.row(25, 0, 172)), 3, 0, -1);
        due("172 of null", STUCK, 1, fileAround(6, 1, TestKit.row(1, 172)), 3, 0, -1);
        due("176 of an INT", STUCK, 1, fileAround(6, 2, TestKit.row(16, 0, 176)), 3, 0, -1);
        due("176 of null", DONE, 2, fileAround(6, 2, TestKit.row(1, 176)), 3, 0, -1);
        due("176 of a row", DONE, 2, fileAround(6, 2, TestKit.row(25, 0, 176)), 3, 0, -1);
    }

    private static void placeNotOfItsKind() {
        TestKit.sentence("when a value or a place is not of the kind that it needs, (a place)");
        for (int p = 0; p < PLACES; p++) {
            // Place 0 has a row, 1 an INT, 2 null, 3 NOTHING.
            dueOn(line("", 1, 21, p), "", 6, p == 1);
            dueOn(line("", 0, 132, p, 1), "", 6, p == 1);
            dueOn(line("", 1, 25, p), "", 6, p == 0 || p == 2);
            dueOn(line("I", 0, 54, p), "I", 6, true);
            dueOn(line("R", 0, 58, p), "R", 6, true);
            dueOn(line("R", 0, 58, p), "N", 6, true);
        }
        due("a row's place that got an INT", STUCK, 2, fileAround(6, 0, TestKit.row(16, 1, 54, 0, 25, 0)), 3, 0, -1);
        due("an INT's place that got null", STUCK, 2, fileAround(6, 0, TestKit.row(1, 58, 1, 21, 1)), 3, 0, -1);
        due("an INT's place that got a row", STUCK, 2, fileAround(6, 0, TestKit.row(25, 0, 58, 1, 132, 1, 1)), 3, 0, -1);
        due("a place of NOTHING that got an INT", DONE, 5,
            fileAround(6, 0, TestKit.row(16, 1, 54, 3, 21, 3, 132, 3, 1, 177)), 3, 0, -1);
    }

    private static void moreThanTheDepth() {
        TestKit.sentence("when more than the depth would be on the stack,");
        for (Line line : TABLE) {
            String kinds = kindsFor(line);
            for (int depth = kinds.length(); depth <= 6; depth++) {
                for (int below = 0; below + kinds.length() <= depth; below++) {
                    dueOn(line, "N".repeat(below) + kinds, depth, below + line.puts() <= depth);
                }
            }
        }
        for (int depth = 0; depth <= 6; depth++) {
            due("one more than " + depth, STUCK, depth, single(NO, 0, depth, 0, filled(20, 1)));
        }
        // Each method has its own depth.
        int[] deep = TestKit.method(NO, 0, 6, 0, TestKit.row(1, 1, 1, 1, 1, 1, 177));
        due("six in a method called at depth 0", DONE, 9,
            TestKit.file(TestKit.constants(), TestKit.method(NO, 0, 0, 0, TestKit.row(184, 1, 177)), deep));
        int[] flat = TestKit.method(NO, 0, 0, 0, TestKit.row(1, 177));
        due("one in a method of depth 0 called at depth 6", STUCK, 1,
            TestKit.file(TestKit.constants(), TestKit.method(NO, 0, 6, 0, TestKit.row(184, 1, 177)), flat));
    }

    private static void returnNotTheMethods() {
        TestKit.sentence("when a return is not that of the method,");
        int[] codes = {177, 172, 176};
        String[] kinds = {"I", "I", "R"};
        for (int returns = 0; returns <= 2; returns++) {
            for (int k = 0; k <= 2; k++) {
                int[] code = TestKit.bytes(putting(kinds[k]), codes[k]);
                String what = codes[k] + " where " + returns + " is returned";
                due(what, k == returns ? DONE : STUCK, k == returns ? 2 : 1, fileAround(6, returns, code), 3, 0, -1);
                int[] callee = TestKit.method(TestKit.row(2), returns, 1, 1, code);
                int[] caller = TestKit.method(TestKit.row(2), 0, 1, 1, TestKit.row(25, 0, 184, 1, 177));
                due(what + " by a called method", k == returns ? DONE : STUCK, k == returns ? 5 : 3,
                    TestKit.file(TestKit.constants(), caller, callee), 3);
            }
        }
    }

    private static void behindItsEnd() {
        TestKit.sentence("or when the code goes on behind its end.");
        for (int length = 1; length <= 60; length++) {
            int[] code = new int[length];
            for (int k = 0; k < length; k++) {
                code[k] = k % 2 == 0 ? 1 : 87;
            }
            due("behind " + length, STUCK, length, single(NO, 0, 1, 0, code));
        }
        due("behind 153 that does not go to its target", STUCK, 2, single(NO, 0, 1, 0, 16, 1, 153, 255, 254));
        due("behind 132", STUCK, 1, single(TestKit.row(1), 0, 0, 1, 132, 0, 1));
        int[] open = TestKit.method(NO, 0, 1, 0, TestKit.row(1));
        due("behind a called method's", STUCK, 2, TestKit.file(TestKit.constants(),
            TestKit.method(NO, 0, 1, 0, TestKit.row(184, 1, 177)), open, TestKit.method(NO, 0, 0, 0, RETURN)));
        due("behind its own, back from a call", STUCK, 2, TestKit.file(TestKit.constants(),
            TestKit.method(NO, 0, 1, 0, TestKit.row(184, 1)), TestKit.method(NO, 0, 0, 0, RETURN)));
        // Code that stands behind it in the file is another method's.
        due("before another method", STUCK, 1, TestKit.file(TestKit.constants(), open, TestKit.method(NO, 0, 0, 0, RETURN)));
    }

    private static int[] two(int code) {
        return single(TestKit.row(1, 1), 1, 2, 2, 21, 0, 21, 1, code, 172);
    }

    private static void divisionByZero() {
        TestKit.sentence("It ends also with: a DIVISION by 0;");
        int[] some = {0, 1, -1, 7, MIN, MAX};
        for (int a : some) {
            due(a + " / 0", DIVISION, 2, two(108), a, 0);
            for (int b : some) {
                if (b != 0) {
                    due(a + " / " + b, DONE, 4, two(108), a, b);
                }
                if (a == 0) {
                    due("0 / " + b, b == 0 ? DIVISION : DONE, b == 0 ? 2 : 4, two(108), 0, b);
                }
            }
        }
    }

    private static void intsThatWrap() {
        TestKit.sentence("96 + 100 - 104 * 108 / [INT INT -> INT], ints that wrap, / towards 0.");
        dueResult("MAX + 1", MIN, two(96), MAX, 1);
        dueResult("MIN + -1", MAX, two(96), MIN, -1);
        dueResult("MIN + MIN", 0, two(96), MIN, MIN);
        dueResult("MAX + MAX", -2, two(96), MAX, MAX);
        dueResult("MIN - 1", MAX, two(100), MIN, 1);
        dueResult("MAX - -1", MIN, two(100), MAX, -1);
        dueResult("0 - MIN", MIN, two(100), 0, MIN);
        dueResult("MAX * 2", -2, two(104), MAX, 2);
        dueResult("MIN * -1", MIN, two(104), MIN, -1);
        dueResult("65536 * 65536", 0, two(104), 65536, 65536);
        dueResult("46341 * 46341", -2147479015, two(104), 46341, 46341);
        dueResult("MIN / -1", MIN, two(108), MIN, -1);
        dueResult("MAX / -1", -MAX, two(108), MAX, -1);
        dueResult("MIN / MAX", -1, two(108), MIN, MAX);
        dueResult("MIN / 1", MIN, two(108), MIN, 1);
        dueResult("0 / 1", 0, two(108), 0, 1);
        dueResult("7 / 2", 3, two(108), 7, 2);
        dueResult("-7 / 2", -3, two(108), -7, 2);
        dueResult("7 / -2", -3, two(108), 7, -2);
        dueResult("-7 / -2", 3, two(108), -7, -2);
        dueResult("-1 / 2", 0, two(108), -1, 2);
        int[] negative = single(TestKit.row(1), 1, 1, 1, 21, 0, 116, 172);
        dueResult("- MIN", MIN, negative, MIN);
        dueResult("- MAX", -MAX, negative, MAX);
        dueResult("- 0", 0, negative, 0);
        for (int c = 0; c <= 255; c++) {
            int[] grows = single(TestKit.row(1), 1, 1, 1, 132, 0, c, 21, 0, 172);
            dueResult("MAX grows by " + c, MAX + (byte) c, grows, MAX);
            dueResult("MIN grows by " + c, MIN + (byte) c, grows, MIN);
        }
    }

    private static boolean holds(int which, long a, long b) {
        boolean[] answers = {a == b, a != b, a < b, a >= b, a > b, a <= b};
        return answers[which];
    }

    private static void comparisons() {
        int[] some = {MIN, MIN + 1, -2, -1, 0, 1, 2, MAX - 1, MAX};
        TestKit.sentence("to the target if it is = 0, not 0, < 0, >= 0, > 0, <= 0, in this order.");
        for (int which = 0; which < 6; which++) {
            int[] one = single(TestKit.row(1), 1, 1, 1, 21, 0, 153 + which, 0, 6, 16, 0, 172, 16, 1, 172);
            for (int a : some) {
                dueResult((153 + which) + " of " + a, holds(which, a, 0) ? 1 : 0, one, a);
            }
        }
        TestKit.sentence("159 t to 164 t [INT INT -> ] likewise for the two, compared as ints.");
        for (int which = 0; which < 6; which++) {
            int[] two = single(TestKit.row(1, 1), 1, 2, 2, 21, 0, 21, 1, 159 + which, 0, 6, 16, 0, 172, 16, 1, 172);
            for (int a : some) {
                for (int b : some) {
                    dueResult((159 + which) + " of " + a + ", " + b, holds(which, a, b) ? 1 : 0, two, a, b);
                }
            }
        }
    }

    private static void nullComparisons() {
        TestKit.sentence("198 t, 199 t [ROW -> ]: to the target if it is null, is not.");
        int[] numbers = {MIN, -1, 0, 1, 7, 8};
        for (int number : numbers) {
            dueResult("198 of " + number, number < 0 ? 1 : 0,
                single(TestKit.row(2), 1, 1, 1, 25, 0, 198, 0, 6, 16, 0, 172, 16, 1, 172), number);
            dueResult("199 of " + number, number < 0 ? 0 : 1,
                single(TestKit.row(2), 1, 1, 1, 25, 0, 199, 0, 6, 16, 0, 172, 16, 1, 172), number);
        }
        dueResult("198 of 1's null", 1, single(NO, 1, 1, 0, 1, 198, 0, 6, 16, 0, 172, 16, 1, 172));
        dueResult("199 of 1's null", 0, single(NO, 1, 1, 0, 1, 199, 0, 6, 16, 0, 172, 16, 1, 172));
    }

    private static void stackInstructions() {
        TestKit.sentence("87 [any -> ]. 89 [any -> it, it]. 95 [any any -> them exchanged].");
        dueResult("87 leaves what is below", 3, single(NO, 1, 2, 0, 16, 3, 16, 4, 87, 172));
        dueResult("89, the one", 3, single(NO, 1, 2, 0, 16, 3, 89, 172));
        dueResult("89, the other", 3, single(NO, 1, 2, 0, 16, 3, 89, 87, 172));
        dueResult("89 of null, the other", NONE, single(NO, 2, 2, 0, 1, 89, 87, 176));
        dueResult("89 of a row, the other", 5, single(TestKit.row(2), 2, 2, 1, 25, 0, 89, 87, 176), 5);
        dueResult("95, the higher", 3, single(NO, 1, 2, 0, 16, 3, 16, 4, 95, 172));
        dueResult("95, the lower", 4, single(NO, 1, 2, 0, 16, 3, 16, 4, 95, 87, 172));
        dueResult("95 of a row and an INT, the higher", 5, single(TestKit.row(2), 2, 2, 1, 25, 0, 16, 4, 95, 176), 5);
        dueResult("95 of a row and an INT, the lower", 4,
            single(TestKit.row(2), 1, 2, 1, 25, 0, 16, 4, 95, 87, 172), 5);
        dueResult("95 of null and an INT, the higher", NONE, single(NO, 2, 2, 0, 1, 16, 4, 95, 176));
        dueResult("95 leaves what is below", 2, single(NO, 1, 3, 0, 16, 2, 16, 3, 16, 4, 95, 87, 87, 172));
    }

    private static void indexes() {
        TestKit.sentence("an INDEX that a row does not have;");
        int[] indexes = {-2, -1, 0, 1, 2, 3, 4, 5, 6, 7, 8, 9, 15, 16, 64, MIN, MAX};
        int[] load = single(TestKit.row(1, 1), 0, 2, 2, 21, 0, 188, 21, 1, 46, 177);
        int[] store = single(TestKit.row(1, 1), 0, 3, 2, 21, 0, 188, 21, 1, 16, 1, 79, 177);
        int[] ofArgument = single(TestKit.row(2, 1), 0, 2, 2, 25, 0, 21, 1, 46, 177);
        for (int size = 0; size <= 8; size++) {
            for (int index : indexes) {
                boolean has = index >= 0 && index < size;
                String what = "index " + index + " of " + size;
                due("46, " + what, has ? DONE : INDEX, has ? 5 : 3, load, size, index);
                due("79, " + what, has ? DONE : INDEX, has ? 6 : 4, store, size, index);
                if (size < 8) {
                    due("46 of an argument, " + what, has ? DONE : INDEX, has ? 4 : 2, ofArgument, size, index);
                }
            }
        }
        // The row behind in what the machine keeps is another one.
        due("an index into the next row", INDEX, 8, single(NO, 0, 3, 1,
            16, 8, 188, 58, 0, 16, 8, 188, 87, 25, 0, 16, 8, 46), 0);
    }

    private static void nulls() {
        TestKit.sentence("NULL where 46, 79, 190 need a row;");
        int[] nullArgument = {2};
        due("46", NULL, 2, single(NO, 0, 2, 0, 1, 16, 0, 46, 177));
        due("79", NULL, 3, single(NO, 0, 3, 0, 1, 16, 0, 16, 0, 79, 177));
        due("190", NULL, 1, single(NO, 0, 1, 0, 1, 190, 177));
        due("46 of an argument", NULL, 2, single(nullArgument, 0, 2, 1, 25, 0, 16, 0, 46, 177), -1);
        due("79 of an argument", NULL, 3, single(nullArgument, 0, 3, 1, 25, 0, 16, 0, 16, 0, 79, 177), -5);
        due("190 of an argument", NULL, 1, single(nullArgument, 0, 1, 1, 25, 0, 190, 177), MIN);
        int[] givesNull = TestKit.method(NO, 2, 1, 0, TestKit.row(1, 176));
        due("190 of what was returned", NULL, 3, TestKit.file(TestKit.constants(),
            TestKit.method(NO, 0, 1, 0, TestKit.row(184, 1, 190, 177)), givesNull));
        // Nothing else minds null.
        due("58", DONE, 3, single(NO, 0, 1, 1, 1, 58, 0, 177));
        due("87", DONE, 3, single(NO, 0, 1, 1, 1, 87, 177));
        due("89", DONE, 3, single(NO, 0, 2, 1, 1, 89, 177));
        due("95", DONE, 4, single(NO, 0, 2, 1, 1, 1, 95, 177));
        due("198", DONE, 3, single(NO, 0, 1, 1, 1, 198, 0, 3, 177));
        due("199", DONE, 3, single(NO, 0, 1, 1, 1, 199, 0, 3, 177));
        due("176", DONE, 2, single(NO, 2, 1, 1, 1, 176));
    }

    private static void sizes() {
        TestKit.sentence("a SIZE of a new row below 0 or above 8,");
        int[] make = single(TestKit.row(1), 2, 1, 1, 21, 0, 188, 176);
        int[] counts = {MIN, MIN + 1, -256, -8, -2, -1, 0, 1, 2, 3, 4, 5, 6, 7, 8, 9, 10, 16, 256, MAX - 1, MAX};
        for (int n : counts) {
            boolean good = n >= 0 && n <= 8;
            VerifiedCode x = due("188 of " + n, good ? DONE : SIZE, good ? 3 : 1, make, n);
            TestKit.due("188 of " + n + ": result()", x.result(), good ? n : 0);
            for (int k = 0; good && k < n; k++) {
                dueResult("element " + k + " of a new row of " + n, 0, single(TestKit.row(1, 1), 1, 2, 2,
                    21, 0, 188, 21, 1, 46, 172), n, k);
            }
        }
        // 190 tells the same, also in an eighth row of 8 elements.
        dueResult("190 of 0", 0, single(NO, 1, 1, 0, 16, 0, 188, 190, 172));
        dueResult("190 of 8", 8, single(NO, 1, 1, 0, 16, 8, 188, 190, 172));
    }

    private static void elementsOfNewRows() {
        TestKit.sentence("188 [INT -> ROW] a new row of so many elements 0.");
        int[] fills = TestKit.method(TestKit.row(1), 0, 3, 1, TestKit.row(16, 8, 188, 21, 0, 16, 66, 79, 177));
        int[] looks = TestKit.method(TestKit.row(1), 1, 2, 1, TestKit.row(16, 8, 188, 21, 0, 46, 172));
        int[] argument = TestKit.method(TestKit.row(2), 0, 0, 1, RETURN);
        for (int k = 0; k < 8; k++) {
            VerifiedCode x = TestKit.loaded("element " + k, TestKit.file(TestKit.constants(), fills, looks, argument));
            TestKit.due("a row that is changed", x.run(0, k, 0, 0), DONE);
            TestKit.due("a new one in the next run", x.run(1, k, 0, 0), DONE);
            TestKit.due("its element " + k, x.result(), 0);
            TestKit.due("an argument", x.run(2, 7, 0, 0), DONE);
            TestKit.due("a new one behind it", x.run(1, k, 0, 0), DONE);
            TestKit.due("its element " + k + " then", x.result(), 0);
        }
    }

    /** Makes new rows of 8 elements, so many as place 0 tells, then one more whose last element it returns. */
    private static int[] rowsAndOne(int[] parameters) {
        return single(parameters, 1, 2, 4, 21, 0, 153, 0, 13, 16, 8, 188, 87, 132, 0, 255, 167, 255, 244,
            16, 8, 188, 16, 7, 46, 172);
    }

    private static void ninthRow() {
        TestKit.sentence("or a ninth row (arguments count);");
        int[] none = rowsAndOne(TestKit.row(1));
        for (int n = 0; n <= 9; n++) {
            boolean good = n + 1 <= 8;
            VerifiedCode x = TestKit.loaded(n + " rows and one", none);
            TestKit.due(n + " rows and one", x.run(0, n, 0, 0), good ? DONE : SIZE);
            // 7 a round; the ninth is the one at the end (3 before it) or that of the ninth round (3 before it).
            int steps = good ? 7 * n + 7 : 7 * 8 + 3;
            TestKit.due(n + " rows and one: steps()", x.steps(), steps);
        }
        int[] two = rowsAndOne(TestKit.row(1, 2, 2));
        for (int n = 0; n <= 9; n++) {
            TestKit.due(n + " and two rows as arguments",
                TestKit.loaded("two", two).run(0, n, 1, 2), n + 1 + 2 <= 8 ? DONE : SIZE);
            TestKit.due(n + " and two empty rows as arguments",
                TestKit.loaded("two empty", two).run(0, n, 0, 8), n + 1 + 2 <= 8 ? DONE : SIZE);
            TestKit.due(n + ", a row and null as arguments",
                TestKit.loaded("one", two).run(0, n, 1, -2), n + 1 + 1 <= 8 ? DONE : SIZE);
            TestKit.due(n + ", null and a row as arguments",
                TestKit.loaded("one", two).run(0, n, -1, 2), n + 1 + 1 <= 8 ? DONE : SIZE);
            TestKit.due(n + " and null twice as arguments",
                TestKit.loaded("no row", two).run(0, n, -1, -2), n + 1 <= 8 ? DONE : SIZE);
        }
        int[] forever = {16, 0, 188, 87, 167, 255, 252};
        due("three arguments", SIZE, 4 * 5 + 1, single(TestKit.row(2, 2, 2), 0, 1, 3, forever), 1, 2, 3);
        // Rows that nobody has any more count, and so do those of called methods; those of a run before do not.
        int[] maker = TestKit.method(NO, 0, 1, 0, TestKit.row(16, 0, 188, 177));
        due("made by called methods", SIZE, 5 * 8 + 2, TestKit.file(TestKit.constants(),
            TestKit.method(NO, 0, 0, 0, TestKit.row(184, 1, 167, 255, 254)), maker));
        VerifiedCode x = TestKit.loaded("again and again", none);
        for (int k = 0; k < 20; k++) {
            TestKit.due("eight rows in run " + k, x.run(0, 7, 0, 0), DONE);
            TestKit.due("nine rows in run " + k, x.run(0, 8, 0, 0), SIZE);
        }
        due("empty rows count", SIZE, 4 * 8 + 1, single(NO, 0, 1, 0, forever));
    }

    private static void fiveMethods() {
        TestKit.sentence("TIRED when a call would make five methods that are under way.");
        // Calls itself so many times as place 0 tells; the deepest returns at once.
        int[] deep = single(TestKit.row(1), 0, 1, 1, 21, 0, 154, 0, 4, 177, 132, 0, 255, 21, 0, 184, 0, 177);
        for (int calls = 0; calls <= 6; calls++) {
            boolean good = calls + 1 <= 4;
            due(calls + " calls deep", good ? DONE : TIRED, good ? 5 * calls + 3 + calls : 5 * 3 + 4, deep, calls);
        }
        int[] last = TestKit.method(NO, 0, 0, 0, RETURN);
        int[] third = TestKit.method(NO, 0, 0, 0, TestKit.row(184, 3, 184, 3, 177));
        int[] second = TestKit.method(NO, 0, 0, 0, TestKit.row(184, 2, 184, 2, 177));
        int[] first = TestKit.method(NO, 0, 0, 0, TestKit.row(184, 1, 184, 1, 177));
        // Four are under way again and again, but never five.
        due("four again and again", DONE, 1 + 2 * (2 + 2 * (2 + 2 * 2)),
            TestKit.file(TestKit.constants(), first, second, third, last));
        int[] round = TestKit.method(NO, 0, 0, 0, TestKit.row(184, 0, 177));
        due("five in a round", TIRED, 3, TestKit.file(TestKit.constants(), first, second, third, round));
        VerifiedCode x = TestKit.loaded("tired, then not", deep);
        TestKit.due("five", x.run(0, 4, 0, 0), TIRED);
        TestKit.due("four behind it", x.run(0, 3, 0, 0), DONE);
        TestKit.due("five behind it", x.run(0, 4, 0, 0), TIRED);
    }

    /**
     * Method 0 makes so many steps, with place 1 as its counter, which must have a third of them, then goes on
     * with the tail. Its place 0 has a row.
     */
    private static int[] behindSteps(int steps, int[] tail, int[]... others) {
        int[] code = {132, 1, 255, 21, 1, 157, 255, 251};
        for (int k = 0; k < steps % 3; k++) {
            code = TestKit.bytes(code, 132, 1, 0);
        }
        int[] file = TestKit.bytes(202, 0, 1 + others.length,
            TestKit.method(TestKit.row(2, 1), 0, 3, 2, TestKit.bytes(code, tail)));
        for (int[] other : others) {
            file = TestKit.bytes(file, other);
        }
        return file;
    }

    /** The tail comes to its last instruction behind so many steps of its own. */
    private static void dueAt200(String what, int end, int own, int... tail) {
        int[] next = TestKit.method(NO, 0, 0, 0, TestKit.row(184, 2, 177));
        int[] last = TestKit.method(NO, 0, 0, 0, TestKit.row(184, 2, 177));
        for (int done = 196; done <= 204; done++) {
            int before = done - own;
            int[] file = behindSteps(before, tail, next, last);
            int want = done < 200 ? end : TIRED;
            int steps = done >= 200 ? 200 : end == DONE ? done + 1 : done;
            due(what + " behind " + done, want, steps, file, 3, before / 3);
        }
    }

    private static void twoHundred() {
        TestKit.sentence("When 200 instructions were done and the run goes on, "
            + "it is TIRED before anything else is looked at;");
        dueAt200("DONE", DONE, 0, 177);
        dueAt200("STUCK by too few", STUCK, 0, 87);
        dueAt200("STUCK by a kind", STUCK, 1, 1, 116);
        dueAt200("STUCK by the depth", STUCK, 3, 1, 1, 1, 1);
        dueAt200("STUCK by a place", STUCK, 0, 21, 0);
        dueAt200("STUCK by a return", STUCK, 1, 16, 0, 172);
        dueAt200("STUCK behind the end", STUCK, 0);
        dueAt200("DIVISION", DIVISION, 2, 16, 1, 16, 0, 108);
        dueAt200("INDEX", INDEX, 2, 25, 0, 16, 3, 46);
        dueAt200("INDEX of 79", INDEX, 3, 25, 0, 16, 255, 16, 0, 79);
        dueAt200("NULL", NULL, 1, 1, 190);
        dueAt200("SIZE", SIZE, 1, 16, 9, 188);
        dueAt200("TIRED by a fifth method", TIRED, 3, 184, 1);
        due("forever", TIRED, 200, single(NO, 0, 0, 0, 167, 0, 0));
        // The instructions of all methods count.
        int[] nothing = TestKit.method(NO, 0, 0, 0, RETURN);
        due("a call and a return without end", TIRED, 200, TestKit.file(TestKit.constants(),
            TestKit.method(NO, 0, 0, 0, TestKit.row(184, 1, 167, 255, 254)), nothing));
        for (int done = 196; done <= 204; done++) {
            int before = done - 2;
            boolean good = done < 200;
            due("back from a call behind " + done, good ? DONE : TIRED, good ? done + 1 : 200,
                behindSteps(before, TestKit.row(184, 1, 177), nothing), 3, before / 3);
        }
    }

    private static void stuckBeforeTheRest() {
        TestKit.sentence("otherwise all that makes a run stuck is looked at before the rest,");
        due("DIVISION of a row", STUCK, 2, single(TestKit.row(2), 0, 2, 1, 25, 0, 16, 0, 108), 3);
        due("DIVISION of null", STUCK, 2, single(NO, 0, 2, 0, 1, 16, 0, 108));
        due("DIVISION by 0 alone", STUCK, 1, single(NO, 0, 2, 0, 16, 0, 108));
        due("NULL with a null index", STUCK, 2, single(NO, 0, 2, 0, 1, 1, 46));
        due("NULL with a row as its index", STUCK, 2, single(TestKit.row(2), 0, 2, 1, 1, 25, 0, 46), 3);
        due("NULL with a null value", STUCK, 3, single(NO, 0, 3, 0, 1, 16, 0, 1, 79));
        due("NULL with a null index for 79", STUCK, 3, single(NO, 0, 3, 0, 1, 1, 16, 0, 79));
        due("NULL without an index", STUCK, 1, single(NO, 0, 3, 0, 1, 46));
        due("INDEX with a null value", STUCK, 3, single(TestKit.row(2), 0, 3, 1, 25, 0, 16, 99, 1, 79), 3);
        due("INDEX with a row as its value", STUCK, 3, single(TestKit.row(2), 0, 3, 1, 25, 0, 16, 99, 25, 0, 79), 3);
        due("INDEX of an INT", STUCK, 2, single(NO, 0, 3, 0, 16, 0, 16, 99, 46));
        int[] eight = {};
        for (int k = 0; k < 8; k++) {
            eight = TestKit.bytes(eight, 16, 0, 188, 87);
        }
        due("SIZE of a ninth row of null", STUCK, 25, single(NO, 0, 1, 0, TestKit.bytes(eight, 1, 188)));
        due("SIZE of a ninth row of none", STUCK, 24, single(NO, 0, 1, 0, TestKit.bytes(eight, 188)));
        due("SIZE of a ninth row", SIZE, 25, single(NO, 0, 1, 0, TestKit.bytes(eight, 16, 0, 188)));
        // Four are under way, and the fourth's call of a fifth is stuck.
        int[] first = TestKit.method(NO, 0, 1, 0, TestKit.row(184, 1, 177));
        int[] second = TestKit.method(NO, 0, 1, 0, TestKit.row(184, 2, 177));
        int[] third = TestKit.method(NO, 0, 1, 0, TestKit.row(16, 1, 184, 3, 177));
        int[][] calls = {{184, 3, 177}, {1, 184, 3, 177}, {21, 0, 184, 3, 177}};
        int[] ends = {STUCK, STUCK, TIRED};
        for (int k = 0; k < calls.length; k++) {
            due("a fifth method, call " + k, ends[k], 4 + (k == 0 ? 0 : 1), TestKit.file(TestKit.constants(),
                first, second, third, TestKit.method(TestKit.row(1), 0, 1, 1, calls[k])));
        }
    }

    private static void putByTheCall() {
        TestKit.sentence("what a call's method returns counting as put by the call,");
        int[] gives = TestKit.method(NO, 1, 1, 0, TestKit.row(16, 1, 172));
        int[] never = TestKit.method(NO, 1, 1, 0, TestKit.row(167, 0, 0));
        int[] nothing = TestKit.method(NO, 0, 1, 0, RETURN);
        int[] exchanges = TestKit.method(TestKit.row(1), 1, 1, 1, TestKit.row(21, 0, 172));
        for (int depth = 0; depth <= 6; depth++) {
            int[] call = TestKit.bytes(filled(depth, 1), 184, 1, 177);
            int[] caller = TestKit.method(NO, 0, depth, 0, call);
            due("an INT on " + depth + " at depth " + depth, STUCK, depth,
                TestKit.file(TestKit.constants(), caller, gives));
            due("an INT that is never returned, on " + depth, STUCK, depth,
                TestKit.file(TestKit.constants(), caller, never));
            due("nothing on " + depth + " at depth " + depth, DONE, depth + 3,
                TestKit.file(TestKit.constants(), caller, nothing));
            if (depth < 6) {
                due("an INT on " + depth + " at one more", DONE, depth + 4, TestKit.file(TestKit.constants(),
                    TestKit.method(NO, 0, depth + 1, 0, call), gives));
                due("an INT for an INT on " + depth, DONE, depth + 5, TestKit.file(TestKit.constants(),
                    TestKit.method(NO, 0, depth + 1, 0, TestKit.bytes(filled(depth, 1), 16, 1, 184, 1, 177)),
                    exchanges));
            }
        }
        // It is looked at before a fifth method makes it TIRED.
        int[] onwards = TestKit.method(NO, 0, 0, 0, TestKit.row(184, 1, 177));
        due("a fifth method that would put too much", STUCK, 3, TestKit.file(TestKit.constants(), onwards,
            TestKit.method(NO, 0, 0, 0, TestKit.row(184, 2, 177)), TestKit.method(NO, 0, 1, 0, TestKit.row(184, 3, 177)),
            TestKit.method(NO, 1, 0, 0, TestKit.row(184, 3, 172))));
        due("a fifth method that would not", TIRED, 3, TestKit.file(TestKit.constants(), onwards,
            TestKit.method(NO, 0, 0, 0, TestKit.row(184, 2, 177)), TestKit.method(NO, 0, 1, 0, TestKit.row(184, 3, 177)),
            TestKit.method(NO, 1, 1, 0, TestKit.row(184, 3, 172))));
    }

    private static void nullBeforeIndex() {
        TestKit.sentence("and NULL and SIZE before INDEX.");
        int[] indexes = {-1, 0, 1, 8, MIN, MAX};
        for (int index : indexes) {
            due("46 of null at " + index, NULL, 2, single(TestKit.row(1), 0, 2, 1, 1, 21, 0, 46), index);
            due("79 of null at " + index, NULL, 3, single(TestKit.row(1), 0, 3, 1, 1, 21, 0, 16, 1, 79), index);
        }
        int[] size = {-1, 9};
        for (int n : size) {
            due("188 of " + n + ", then an index", SIZE, 1, single(TestKit.row(1), 0, 2, 1, 21, 0, 188, 16, 99, 46), n);
        }
    }

    private static void arguments() {
        TestKit.sentence("its parameters have a, b, c in this order: an INT the number itself, a ROW a new row of "
            + "number & 7 elements, number, number + 1, .. , or null when the number is below 0.");
        int[] numbers = {MIN, MIN + 7, -8, -7, -1, 0, 1, 2, 3, 4, 5, 6, 7, 8, 9, 14, 15, 16, 255, 1 << 30, MAX - 8, MAX - 7,
            MAX - 1, MAX};
        int[][] lists = {{2}, {1, 2}, {2, 1}, {1, 1, 2}, {2, 1, 1}, {2, 2, 2}};
        for (int number : numbers) {
            for (int[] list : lists) {
                for (int p = 0; p < list.length; p++) {
                    int[] given = TestKit.with(TestKit.row(2, 2, 2), p, number);
                    dueArgument(list, p, given, number);
                }
            }
        }
        due("numbers without parameters", DONE, 1, single(NO, 0, 0, 0, 177), MIN, MAX, -1);
        // The types are those of the method that is run, whichever ran before.
        VerifiedCode x = TestKit.loaded("two methods", TestKit.file(TestKit.constants(),
            TestKit.method(TestKit.row(1), 1, 2, 1, TestKit.row(21, 0, 1, 184, 1, 87, 172)),
            TestKit.method(TestKit.row(2), 2, 1, 1, TestKit.row(25, 0, 176))));
        for (int k = 0; k < 3; k++) {
            TestKit.due("the one with an INT", x.run(0, 13, 0, 0), DONE);
            TestKit.due("its result()", x.result(), 13);
            TestKit.due("the one with a ROW", x.run(1, 13, 0, 0), DONE);
            TestKit.due("its result()", x.result(), 5);
            TestKit.due("the one with a ROW again", x.run(1, -13, 0, 0), DONE);
            TestKit.due("its result() again", x.result(), NONE);
        }
    }

    private static void dueArgument(int[] list, int p, int[] given, int number) {
        String what = Arrays.toString(given) + " for " + Arrays.toString(list) + ", " + p;
        if (list[p] == 1) {
            dueResult(what, number, single(list, 1, 1, 3, 21, p, 172), given);
            return;
        }
        int length = number & 7;
        dueResult(what, number < 0 ? NONE : length, single(list, 2, 1, 3, 25, p, 176), given);
        for (int k = 0; k <= 8; k++) {
            int[] element = single(list, 1, 2, 3, 25, p, 16, k, 46, 172);
            if (number < 0) {
                due(what + ", element " + k, NULL, 2, element, given);
            } else if (k >= length) {
                due(what + ", element " + k, INDEX, 2, element, given);
            } else {
                dueResult(what + ", element " + k, number + k, element, given);
            }
        }
    }

    private static VerifiedCode ofMethods(int count) {
        int[] file = TestKit.bytes(202, 0, count);
        for (int k = 0; k < count; k++) {
            file = TestKit.bytes(file, TestKit.method(NO, 1, 1, 0, TestKit.row(16, 10 + k, 172)));
        }
        VerifiedCode x = TestKit.loaded(count + " methods", file);
        for (int k = 0; k < count; k++) {
            TestKit.due("run(" + k + ", ..) of " + count, x.run(k, 0, 0, 0), DONE);
            TestKit.due("result() of method " + k, x.result(), 10 + k);
        }
        return x;
    }

    private static void noProgram() {
        TestKit.sentence("IllegalStateException: there is no program; (run)");
        int[] methods = {0, 3, 4, -1, MIN, MAX};
        for (int m : methods) {
            TestKit.dueThrowAlone("run(" + m + ", ..)", IllegalStateException.class, VerifiedCode::new,
                x -> x.run(m, 0, 0, 0));
            TestKit.dueThrowAlone("run(" + m + ", ..) of what is only typed", IllegalStateException.class,
                () -> TestKit.typed(single(NO, 0, 0, 0, 177)), x -> x.run(m, 0, 0, 0));
        }
    }

    private static void noSuchMethod() {
        TestKit.sentence("IllegalArgumentException: there is no such method. (run)");
        for (int count = 1; count <= 4; count++) {
            int n = count;
            int[] wrong = {-1, -2, n, n + 1, 4, 5, 255, MIN, MAX};
            for (int m : wrong) {
                TestKit.dueThrowAlone("run(" + m + ", ..) of " + n, IllegalArgumentException.class,
                    () -> ofMethods(n), x -> x.run(m, 1, 2, 3));
            }
        }
        VerifiedCode x = ofMethods(4);
        TestKit.typeAll(x, single(NO, 0, 0, 0, 177));
        TestKit.due("read() of one method", x.read(), NONE);
        TestKit.dueThrow("run(1, ..) of one method", IllegalArgumentException.class, () -> x.run(1, 0, 0, 0));
        TestKit.due("result() behind it", x.result(), 13);
        TestKit.due("steps() behind it", x.steps(), 2);
    }

    /** How to end in each way; the numbers are those of the run's arguments. */
    private static int[] endsIn(int end) {
        switch (end) {
            case DONE: return single(NO, 0, 1, 0, 1, 87, 177);
            case STUCK: return single(NO, 0, 1, 0, 1, 87, 87);
            case DIVISION: return single(NO, 0, 2, 0, 16, 1, 16, 0, 108);
            case INDEX: return single(NO, 0, 2, 0, 16, 2, 188, 16, 2, 46);
            case NULL: return single(NO, 0, 2, 0, 1, 190);
            case SIZE: return single(NO, 0, 2, 0, 16, 9, 188);
            default: return single(NO, 0, 2, 0, 167, 0, 0);
        }
    }

    private static int stepsOf(int end) {
        int[] steps = {3, 2, 2, 3, 1, 1, 200};
        return steps[end];
    }

    private static void resultBefore() {
        TestKit.sentence("0 before. (result)");
        TestKit.due("of a new object", new VerifiedCode().result(), 0);
        TestKit.due("behind read()", TestKit.loaded("loaded", endsIn(DONE)).result(), 0);
        for (int end = STUCK; end <= TIRED; end++) {
            VerifiedCode x = TestKit.loaded("end " + end, endsIn(end));
            TestKit.due("end " + end, x.run(0, 0, 0, 0), end);
            TestKit.due("result() behind end " + end + " alone", x.result(), 0);
        }
        VerifiedCode x = new VerifiedCode();
        TestKit.dueThrow("run without a program", IllegalStateException.class, () -> x.run(0, 1, 2, 3));
        TestKit.due("result() behind a run that throws", x.result(), 0);
    }

    private static void resultOfTheLatestDone() {
        TestKit.sentence("Of the latest run that was DONE (whatever ran, or was read, since):");
        int[] gives = single(TestKit.row(1), 1, 1, 1, 21, 0, 172);
        for (int end = STUCK; end <= TIRED; end++) {
            VerifiedCode x = TestKit.loaded("gives", gives);
            TestKit.due("a run that is DONE", x.run(0, 41, 0, 0), DONE);
            TestKit.due("another", x.run(0, 42, 0, 0), DONE);
            TestKit.due("result() of the latest", x.result(), 42);
            TestKit.typeAll(x, endsIn(end));
            TestKit.due("result() behind typing", x.result(), 42);
            TestKit.due("read()", x.read(), NONE);
            TestKit.due("result() behind read()", x.result(), 42);
            TestKit.due("end " + end, x.run(0, 7, 7, 7), end);
            TestKit.due("result() behind end " + end, x.result(), 42);
            x.check(0);
            TestKit.due("result() behind check", x.result(), 42);
            TestKit.dueThrow("no such method", IllegalArgumentException.class, () -> x.run(1, 0, 0, 0));
            TestKit.due("result() behind a run that throws", x.result(), 42);
            x.clear();
            TestKit.due("a read() that fails", x.read(), 0);
            TestKit.due("result() behind a read() that fails", x.result(), 42);
            x.write();
            TestKit.due("result() behind write()", x.result(), 42);
            TestKit.typeAll(x, endsIn(DONE));
            x.read();
            TestKit.due("DONE with nothing", x.run(0, 0, 0, 0), DONE);
            TestKit.due("result() of nothing", x.result(), 0);
        }
        // A called method's return is none of the run's.
        VerifiedCode x = TestKit.loaded("called", TestKit.file(TestKit.constants(),
            TestKit.method(NO, 0, 1, 0, TestKit.row(184, 1, 87, 87)), TestKit.method(NO, 1, 1, 0, TestKit.row(16, 9, 172))));
        TestKit.due("stuck behind a return", x.run(0, 0, 0, 0), STUCK);
        TestKit.due("result() behind a called method's return", x.result(), 0);
        TestKit.due("the called method alone", x.run(1, 0, 0, 0), DONE);
        TestKit.due("its result()", x.result(), 9);
    }

    private static void resultOfEachKind() {
        TestKit.sentence("the INT that was returned, how many elements the ROW has, NONE for null, 0 for nothing;");
        int[] some = {0, 1, -1, 8, MIN, MAX};
        for (int number : some) {
            dueResult("an INT", number, single(TestKit.row(1), 1, 1, 1, 21, 0, 172), number);
        }
        for (int size = 0; size <= 8; size++) {
            dueResult("a row of " + size, size, single(TestKit.row(1), 2, 1, 1, 21, 0, 188, 176), size);
        }
        dueResult("null", NONE, single(NO, 2, 1, 0, 1, 176));
        dueResult("a null argument", NONE, single(TestKit.row(2), 2, 1, 1, 25, 0, 176), -1);
        dueResult("nothing", 0, single(NO, 0, 1, 0, 177));
        dueResult("nothing, with values on the stack", 0, single(NO, 0, 2, 0, 16, 5, 16, 6, 177));
        dueResult("the highest value", 6, single(NO, 1, 2, 0, 16, 5, 16, 6, 172));
        int[] gives = TestKit.method(TestKit.row(1), 1, 1, 1, TestKit.row(21, 0, 172));
        int[] none = TestKit.method(NO, 0, 0, 0, RETURN);
        VerifiedCode x = TestKit.loaded("an INT, then nothing", TestKit.file(TestKit.constants(), gives, none));
        x.run(0, 33, 0, 0);
        TestKit.due("an INT", x.result(), 33);
        x.run(1, 33, 0, 0);
        TestKit.due("nothing behind an INT", x.result(), 0);
    }

    private static void stepsBefore() {
        TestKit.sentence("0 before. (steps)");
        TestKit.due("of a new object", new VerifiedCode().steps(), 0);
        VerifiedCode x = TestKit.loaded("loaded", endsIn(DONE));
        TestKit.due("behind read()", x.steps(), 0);
        x.check(0);
        TestKit.due("behind check", x.steps(), 0);
        TestKit.dueThrow("no such method", IllegalArgumentException.class, () -> x.run(1, 0, 0, 0));
        TestKit.due("behind a run that throws", x.steps(), 0);
    }

    private static void stepsOfEachEnd() {
        TestKit.sentence("Of the latest run: how many instructions were done (not counting the one that it ended in, "
            + "unless it was DONE);");
        for (int first = DONE; first <= TIRED; first++) {
            for (int second = DONE; second <= TIRED; second++) {
                VerifiedCode x = TestKit.loaded("the first", endsIn(first));
                TestKit.due("end " + first, x.run(0, 0, 0, 0), first);
                TestKit.due("steps() of end " + first, x.steps(), stepsOf(first));
                TestKit.typeAll(x, endsIn(second));
                TestKit.due("the second is read", x.read(), NONE);
                TestKit.due("steps() behind read()", x.steps(), stepsOf(first));
                TestKit.due("end " + second + " behind it", x.run(0, 0, 0, 0), second);
                TestKit.due("steps() of end " + second, x.steps(), stepsOf(second));
                TestKit.dueThrow("no such method", IllegalArgumentException.class, () -> x.run(-1, 0, 0, 0));
                TestKit.due("steps() behind a run that throws", x.steps(), stepsOf(second));
            }
        }
        due("none, STUCK in the first", STUCK, 0, single(NO, 0, 0, 0, 87));
        due("one, DONE in the first", DONE, 1, single(NO, 0, 0, 0, 177));
        due("a call, one in it, and one behind it", DONE, 3, TestKit.file(TestKit.constants(),
            TestKit.method(NO, 0, 0, 0, TestKit.row(184, 1, 177)), TestKit.method(NO, 0, 0, 0, RETURN)));
        due("a call, STUCK in it", STUCK, 1, TestKit.file(TestKit.constants(),
            TestKit.method(NO, 0, 0, 0, TestKit.row(184, 1, 177)), TestKit.method(NO, 0, 0, 0, TestKit.row(87))));
        due("TIRED by a fifth method", TIRED, 3, single(NO, 0, 0, 0, 184, 0));
    }
}
