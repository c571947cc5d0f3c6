import java.util.Arrays;

/** Each sentence of promise 10, and of CHECKING, that names a boundary case. */
public final class CheckSentencesTest {
    private static final int NONE = VerifiedCode.NONE;
    private static final int INT = 1;
    private static final int ROW = 2;
    private static final int NULL = 3;
    private static final int[] NO = {};
    private static final int[] WITH_TARGET = {153, 154, 155, 156, 157, 158, 159, 160, 161, 162, 163, 164, 167, 198, 199};

    /** An instruction, what it takes (I INT, R ROW, A any), what it puts, the type that place 0 must have. */
    private record Line(String name, int[] bytes, String takes, String types, int place) {
        int puts() {
            return types.length();
        }
    }

    /** What it puts: I, R, N for INT, ROW, NULL; x and y for the first and the second that it takes. */
    private static Line line(String takes, String types, int place, int... bytes) {
        return new Line(Arrays.toString(bytes), bytes, takes, types, place);
    }

    /** All instructions but those with a target and those that return. */
    private static final Line[] TABLE = {
        line("", "N", 0, 1), line("", "I", 0, 16, 128), line("", "I", 0, 18, 0), line("", "I", INT, 21, 0),
        line("", "R", ROW, 25, 0), line("", "N", NULL, 25, 0), line("I", "", 0, 54, 0), line("R", "", 0, 58, 0),
        line("RI", "I", 0, 46), line("RII", "", 0, 79), line("A", "", 0, 87), line("A", "xx", 0, 89),
        line("AA", "yx", 0, 95), line("II", "I", 0, 96), line("II", "I", 0, 100), line("II", "I", 0, 104),
        line("II", "I", 0, 108), line("I", "I", 0, 116), line("", "", INT, 132, 0, 1), line("", "I", 0, 184, 1),
        line("IRI", "R", 0, 184, 2), line("R", "", 0, 184, 3), line("I", "R", 0, 188), line("R", "I", 0, 190),
    };

    private CheckSentencesTest() {
    }

    public static void main(String[] args) {
        stateAtFirst();
        frameAndStatePlaces();
        frameAndStateValues();
        asManyOnBothStacks();
        unlessThereIsNone();
        stateIsTheFrames();
        thereMustBeAState();
        enoughOnTheStack();
        typesOnTheStack();
        nullWillDo();
        typesPut();
        typesOfPlaces();
        placeAsSaid();
        methodAsSaid();
        depthFullAndPassed();
        frameAtTheTarget();
        stateBehindGoodForTarget();
        noStateBehind();
        inTheEnd();
        refusedAtTheFirst();
        goodFor();
        noProgram();
        noSuchMethod();
        TestKit.end("CheckSentencesTest");
    }

    /** Methods 1 to 3 are there to be called: () -> INT, (INT ROW INT) -> ROW, (ROW) -> nothing. */
    private static int[] fileAround(int[] method) {
        return TestKit.file(TestKit.constants(7), method,
            TestKit.method(NO, 1, 1, 0, TestKit.row(16, 1, 172)),
            TestKit.method(TestKit.row(1, 2, 1), 2, 1, 3, TestKit.row(25, 1, 176)),
            TestKit.method(TestKit.row(2), 0, 0, 1, TestKit.row(177)));
    }

    private static void dueCheck(String what, int want, int[] method) {
        TestKit.due(what + ": check(0)", TestKit.loaded(what, fileAround(method)).check(0), want);
    }

    private static int[] filled(int count, int b) {
        int[] row = new int[count];
        Arrays.fill(row, b);
        return row;
    }

    private static int typeOf(char letter) {
        return letter == 'R' ? ROW : INT;
    }

    /** A stack of so many INTs, and on it what the instruction takes. */
    private static int[] stackFor(int below, String takes) {
        int[] stack = filled(below, INT);
        for (char letter : takes.toCharArray()) {
            stack = TestKit.bytes(stack, typeOf(letter));
        }
        return stack;
    }

    private static void stateAtFirst() {
        TestKit.sentence("at first the parameters and NOTHING, the stack empty.");
        int[][] lists = {{}, {1}, {2}, {1, 1}, {1, 2}, {2, 1}, {2, 2}, {1, 1, 2}, {2, 2, 1}, {1, 2, 1}, {2, 1, 2}};
        for (int[] list : lists) {
            for (int places = list.length; places <= 6; places++) {
                int[] first = Arrays.copyOf(list, places);
                String what = Arrays.toString(list) + " in " + places + " places";
                for (int p = 0; p < places; p++) {
                    dueCheck(what + ", 21 " + p, first[p] == INT ? NONE : 0,
                        TestKit.method(list, 0, 1, places, TestKit.row(21, p, 177)));
                    dueCheck(what + ", 25 " + p, first[p] == ROW ? NONE : 0,
                        TestKit.method(list, 0, 1, places, TestKit.row(25, p, 177)));
                    dueCheck(what + ", 132 " + p, first[p] == INT ? NONE : 0,
                        TestKit.method(list, 0, 1, places, TestKit.row(132, p, 1, 177)));
                    for (int type = 0; type <= 3; type++) {
                        dueCheck(what + ", a frame with " + type + " at " + p, type == first[p] || type == 0 ? NONE : 0,
                            TestKit.method(list, 0, 1, places, TestKit.row(177),
                                TestKit.frame(0, TestKit.with(first, p, type))));
                    }
                }
                dueCheck(what + ", 87", 0, TestKit.method(list, 0, 1, places, TestKit.row(87, 177)));
                dueCheck(what + ", a frame with a value", 0,
                    TestKit.method(list, 0, 1, places, TestKit.row(177), TestKit.frame(0, first, INT)));
                if (places > list.length) {
                    // What stands in the file behind the types of the parameters is the type that is returned.
                    dueCheck(what + ", returns INT", 0,
                        TestKit.method(list, INT, 1, places, TestKit.row(21, list.length, 172)));
                    dueCheck(what + ", returns ROW", 0,
                        TestKit.method(list, ROW, 1, places, TestKit.row(25, list.length, 176)));
                }
            }
        }
        // Whatever was checked before.
        VerifiedCode x = TestKit.loaded("one check behind another", TestKit.file(TestKit.constants(),
            TestKit.method(NO, 1, 2, 1, TestKit.row(16, 1, 54, 0, 1, 16, 1, 172)),
            TestKit.method(NO, 0, 2, 1, TestKit.row(21, 0, 177)), TestKit.method(NO, 0, 2, 1, TestKit.row(87, 177))));
        for (int k = 0; k < 3; k++) {
            TestKit.due("one that fills places and stack", x.check(0), NONE);
            TestKit.due("one that looks at places", x.check(1), 0);
            TestKit.due("one that fills places and stack, again", x.check(0), NONE);
            TestKit.due("one that looks at the stack", x.check(2), 0);
        }
    }

    private static boolean isGood(int type, int declared) {
        int[][] good = {{1, 0, 0, 0}, {1, 1, 0, 0}, {1, 0, 1, 0}, {1, 0, 1, 1}};
        return good[type][declared] == 1;
    }

    /** The state of one frame, from which an INT is dropped, comes to the next frame at 2. */
    private static int[] fallsThrough(int places, int[] from, int[] fromStack, int[] to, int[] toStack) {
        return TestKit.method(NO, 0, 6, places, TestKit.row(177, 87, 177),
            TestKit.frame(1, from, TestKit.bytes(fromStack, INT)), TestKit.frame(2, to, toStack));
    }

    private static void frameAndStatePlaces() {
        TestKit.sentence("(1) if there is a frame at its offset: the state, unless there is none, must be good for it, "
            + "place by place");
        for (int places = 1; places <= 6; places++) {
            for (int p = 0; p < places; p++) {
                for (int type = 0; type <= 3; type++) {
                    for (int declared = 0; declared <= 3; declared++) {
                        int[] from = TestKit.with(TestKit.row(0, 1, 2, 3, 1, 2), p, type);
                        int[] to = TestKit.with(from, p, declared);
                        dueCheck(type + " where " + declared + " is, place " + p + " of " + places,
                            isGood(type, declared) ? NONE : 2, fallsThrough(places, Arrays.copyOf(from, places), NO,
                                Arrays.copyOf(to, places), NO));
                    }
                }
            }
        }
    }

    private static void frameAndStateValues() {
        TestKit.sentence("place by place and value by value,");
        for (int height = 1; height <= 5; height++) {
            for (int k = 0; k < height; k++) {
                for (int type = 1; type <= 3; type++) {
                    for (int declared = 1; declared <= 3; declared++) {
                        int[] from = TestKit.with(TestKit.row(3, 1, 2, 3, 1), k, type);
                        int[] to = TestKit.with(from, k, declared);
                        dueCheck(type + " where " + declared + " is, value " + k + " of " + height,
                            isGood(type, declared) ? NONE : 2,
                            fallsThrough(0, NO, Arrays.copyOf(from, height), NO, Arrays.copyOf(to, height)));
                    }
                }
            }
        }
        // The sixth value is put in between.
        for (int declared = 1; declared <= 3; declared++) {
            dueCheck("NULL where " + declared + " is, the sixth value", isGood(NULL, declared) ? NONE : 2,
                TestKit.method(NO, 0, 6, 0, TestKit.row(177, 1, 177), TestKit.frame(1, NO, 1, 2, 3, 1, 2),
                    TestKit.frame(2, NO, 1, 2, 3, 1, 2, declared)));
        }
        dueCheck("the lowest first", 2, fallsThrough(0, NO, TestKit.row(INT, ROW), NO, TestKit.row(ROW, INT)));
    }

    private static void asManyOnBothStacks() {
        TestKit.sentence("as many on both stacks;");
        for (int from = 0; from <= 5; from++) {
            for (int to = 0; to <= 6; to++) {
                dueCheck(from + " and " + to, from == to ? NONE : 2,
                    fallsThrough(0, NO, filled(from, INT), NO, filled(to, INT)));
                dueCheck(from + " and " + to + " at a target", from == to ? NONE : 1,
                    TestKit.method(NO, 0, 6, 0, TestKit.row(177, 167, 0, 3, 177),
                        TestKit.frame(1, NO, filled(from, ROW)), TestKit.frame(4, NO, filled(to, ROW))));
            }
        }
    }

    private static void unlessThereIsNone() {
        TestKit.sentence("the state, unless there is none, must be good for it");
        int[][] ends = {{177}, {16, 1, 172}, {1, 176}, {167, 0, 0}};
        int[] returns = {0, 1, 2, 0};
        int[] first = TestKit.frame(0, TestKit.row(INT, 0));
        for (int k = 0; k < ends.length; k++) {
            int at = ends[k].length;
            for (int type = 0; type <= 3; type++) {
                for (int height = 0; height <= 6; height++) {
                    int[] frame = TestKit.frame(at, TestKit.row(0, type), filled(height, Math.max(1, type)));
                    dueCheck("a frame of " + type + " and " + height + " behind " + Arrays.toString(ends[k]), NONE,
                        TestKit.method(TestKit.row(INT), returns[k], 6, 2, TestKit.bytes(ends[k], 167, 0, 0),
                            first, frame));
                }
            }
        }
    }

    private static void stateIsTheFrames() {
        TestKit.sentence("the state is the frame's then.");
        dueCheck("an INT is forgotten", 0, TestKit.method(TestKit.row(INT), 0, 1, 1, TestKit.row(21, 0, 177),
            TestKit.frame(0, TestKit.row(0))));
        dueCheck("an INT is kept", NONE, TestKit.method(TestKit.row(INT), 0, 1, 1, TestKit.row(21, 0, 177),
            TestKit.frame(0, TestKit.row(INT))));
        dueCheck("a NULL is a ROW from there on", 1, TestKit.method(NO, 0, 1, 0, TestKit.row(1, 167, 0, 3, 177),
            TestKit.frame(1, NO, ROW), TestKit.frame(4, NO, NULL)));
        dueCheck("a NULL in a place is a ROW from there on", 3, TestKit.method(NO, 0, 1, 1,
            TestKit.row(1, 58, 0, 167, 0, 3, 177), TestKit.frame(3, TestKit.row(ROW)), TestKit.frame(6, TestKit.row(NULL))));
        dueCheck("a NULL in a place stays one without a frame", NONE, TestKit.method(NO, 0, 1, 1,
            TestKit.row(1, 58, 0, 167, 0, 3, 177), TestKit.frame(6, TestKit.row(NULL))));
        dueCheck("behind no state too", NONE, TestKit.method(NO, 1, 1, 1, TestKit.row(16, 1, 172, 21, 0, 172),
            TestKit.frame(3, TestKit.row(INT))));
        // The frames of a program before, of which there were more, are no frames of this one.
        VerifiedCode x = TestKit.loaded("two frames", TestKit.fileOf(TestKit.method(NO, 0, 0, 0,
            TestKit.row(177, 177, 177), TestKit.frame(1, NO), TestKit.frame(2, NO))));
        for (int k = 0; k < 3; k++) {
            TestKit.typeAll(x, TestKit.fileOf(TestKit.method(NO, 0, 0, 0, TestKit.row(177, 177, 177),
                TestKit.frame(1, NO))));
            TestKit.due("one frame behind two: read()", x.read(), NONE);
            TestKit.due("one frame behind two: check(0)", x.check(0), 2);
        }
        dueCheck("behind no state its stack too", NONE, TestKit.method(NO, 1, 1, 0, TestKit.row(16, 1, 172, 172),
            TestKit.frame(3, NO, INT)));
    }

    private static void thereMustBeAState() {
        TestKit.sentence("(2) There must be a state.");
        int[][] ends = {{177}, {16, 1, 172}, {1, 176}};
        for (int k = 0; k < ends.length; k++) {
            int[] code = TestKit.bytes(ends[k], ends[k]);
            dueCheck("none behind return " + k, ends[k].length, TestKit.method(NO, k, 1, 0, code));
            dueCheck("a frame's behind return " + k, NONE,
                TestKit.method(NO, k, 1, 0, code, TestKit.frame(ends[k].length, NO)));
            dueCheck("a frame that is not there, but behind it", ends[k].length, TestKit.method(NO, k, 1, 0,
                TestKit.bytes(ends[k], 16, 1, 87, ends[k]), TestKit.frame(ends[k].length + 2, NO, INT)));
        }
        dueCheck("none behind 167", 3, TestKit.method(NO, 0, 0, 0, TestKit.row(167, 0, 0, 177), TestKit.frame(0, NO)));
        dueCheck("a frame's behind 167", NONE, TestKit.method(NO, 0, 0, 0, TestKit.row(167, 0, 0, 177),
            TestKit.frame(0, NO), TestKit.frame(3, NO)));
        dueCheck("none even for 167 itself", 1, TestKit.method(NO, 0, 0, 0, TestKit.row(177, 167, 255, 255),
            TestKit.frame(0, NO)));
    }

    /** The instruction on this stack, with a place as it needs it. */
    private static int[] onStack(Line line, int depth, int[] stack) {
        return TestKit.method(NO, 0, depth, 1, TestKit.bytes(177, line.bytes(), 177),
            TestKit.frame(1, TestKit.row(line.place()), stack));
    }

    private static void enoughOnTheStack() {
        TestKit.sentence("(3) What it takes must be on the stack,");
        for (Line line : TABLE) {
            String takes = line.takes();
            for (int less = 0; less <= takes.length(); less++) {
                // What is there are the highest of those that it takes.
                int[] stack = stackFor(0, takes.substring(less));
                dueCheck(line.name() + " on " + stack.length, less == 0 ? NONE : 1,
                    onStack(line, 6, stack));
                int[] lowest = stackFor(0, takes.substring(0, takes.length() - less));
                dueCheck(line.name() + " on the lowest " + lowest.length, less == 0 ? NONE : 1,
                    onStack(line, 6, lowest));
            }
        }
    }

    private static void typesOnTheStack() {
        TestKit.sentence("with these types,");
        for (Line line : TABLE) {
            String takes = line.takes();
            for (int k = 0; k < takes.length(); k++) {
                for (int type = 1; type <= 3; type++) {
                    char letter = takes.charAt(k);
                    boolean good = letter == 'A' || (letter == 'I') == (type == INT);
                    dueCheck(line.name() + " with " + type + " as value " + k, good ? NONE : 1,
                        onStack(line, 6, TestKit.with(stackFor(0, takes), k, type)));
                }
            }
        }
        for (int code : WITH_TARGET) {
            for (int type = 1; type <= 3; type++) {
                dueTypeOfJump(code, type);
            }
        }
    }

    private static String takenBy(int code) {
        return code == 167 ? "" : code >= 198 ? "R" : code >= 159 ? "II" : "I";
    }

    private static void dueTypeOfJump(int code, int type) {
        String takes = takenBy(code);
        for (int k = 0; k < takes.length(); k++) {
            boolean good = (takes.charAt(k) == 'I') == (type == INT);
            dueCheck(code + " with " + type + " as value " + k, good ? NONE : 1,
                TestKit.method(NO, 0, 6, 0, TestKit.row(177, code, 0, 3, 177),
                    TestKit.frame(1, NO, TestKit.with(stackFor(0, takes), k, type)), TestKit.frame(4, NO)));
        }
    }

    private static void nullWillDo() {
        TestKit.sentence("Where ROW is taken, NULL will do.");
        dueCheck("58", NONE, TestKit.method(NO, 0, 1, 1, TestKit.row(1, 58, 0, 177)));
        dueCheck("46", NONE, TestKit.method(NO, 0, 2, 0, TestKit.row(1, 16, 0, 46, 177)));
        dueCheck("79", NONE, TestKit.method(NO, 0, 3, 0, TestKit.row(1, 16, 0, 16, 0, 79, 177)));
        dueCheck("176", NONE, TestKit.method(NO, 2, 1, 0, TestKit.row(1, 176)));
        dueCheck("190", NONE, TestKit.method(NO, 0, 1, 0, TestKit.row(1, 190, 177)));
        dueCheck("198", NONE, TestKit.method(NO, 0, 1, 0, TestKit.row(1, 198, 0, 3, 177), TestKit.frame(4, NO)));
        dueCheck("199", NONE, TestKit.method(NO, 0, 1, 0, TestKit.row(1, 199, 0, 3, 177), TestKit.frame(4, NO)));
        dueCheck("184", NONE, TestKit.method(NO, 0, 1, 0, TestKit.row(1, 184, 3, 177)));
        dueCheck("25", NONE, TestKit.method(NO, 0, 1, 1, TestKit.row(1, 58, 0, 25, 0, 177)));
        dueCheck("not for an INT", 1, TestKit.method(NO, 0, 1, 1, TestKit.row(1, 54, 0, 177)));
        dueCheck("not for an INT that is returned", 1, TestKit.method(NO, 1, 1, 0, TestKit.row(1, 172)));
    }

    private static int typePut(char letter, int[] taken) {
        switch (letter) {
            case 'I': return INT;
            case 'R': return ROW;
            case 'N': return NULL;
            case 'x': return taken[0];
            default: return taken[1];
        }
    }

    private static void typesPut() {
        TestKit.sentence("[A -> B]: it takes A from the stack (the last one being the highest) and puts B.");
        int[] types = {INT, ROW, NULL};
        for (Line line : TABLE) {
            for (int below = 0; below <= 3; below++) {
                if (!line.takes().contains("A")) {
                    dueTypesBehind(line, below, stackFor(0, line.takes()));
                    continue;
                }
                for (int a : types) {
                    for (int b : types) {
                        dueTypesBehind(line, below, Arrays.copyOf(TestKit.row(a, b), line.takes().length()));
                    }
                }
            }
        }
    }

    /** What is below stays as it is, what it puts lies on it: a frame behind it is good with these types alone. */
    private static void dueTypesBehind(Line line, int below, int[] taken) {
        int[] low = Arrays.copyOf(TestKit.row(ROW, INT, NULL), below);
        int[] behind = low;
        for (char letter : line.types().toCharArray()) {
            behind = TestKit.bytes(behind, typePut(letter, taken));
        }
        String what = line.name() + " of " + Arrays.toString(taken) + " on " + below;
        int at = 1 + line.bytes().length;
        int[] code = TestKit.bytes(177, line.bytes(), 177);
        int[] before = TestKit.frame(1, TestKit.row(line.place()), TestKit.bytes(low, taken));
        for (int k = 0; k < behind.length; k++) {
            for (int declared = 1; declared <= 3; declared++) {
                dueCheck(what + ", value " + k + " as " + declared, isGood(behind[k], declared) ? NONE : at,
                    TestKit.method(NO, 0, 6, 1, code, before,
                        TestKit.frame(at, TestKit.row(0), TestKit.with(behind, k, declared))));
            }
        }
        for (int height = 0; height <= 6; height++) {
            dueCheck(what + ", " + height + " behind it", height == behind.length ? NONE : at,
                TestKit.method(NO, 0, 6, 1, code, before, TestKit.frame(at, TestKit.row(0),
                    TestKit.bytes(Arrays.copyOf(behind, Math.min(height, behind.length)),
                        filled(Math.max(0, height - behind.length), INT)))));
        }
    }

    private static void typesOfPlaces() {
        TestKit.sentence("54 p [INT -> ], 58 p [ROW -> ]: the place has it then.");
        int[] codes = {54, 58, 58};
        int[] types = {INT, ROW, NULL};
        for (int k = 0; k < codes.length; k++) {
            for (int p = 0; p < 6; p++) {
                for (int declared = 0; declared <= 3; declared++) {
                    int[] places = TestKit.row(0, 1, 2, 3, 1, 2);
                    dueCheck(codes[k] + " of " + types[k] + " to place " + p + " as " + declared,
                        isGood(types[k], declared) ? NONE : 3,
                        TestKit.method(NO, 0, 1, 6, TestKit.row(177, codes[k], p, 177),
                            TestKit.frame(1, places, types[k]), TestKit.frame(3, TestKit.with(places, p, declared))));
                }
            }
        }
    }

    private static void placeAsSaid() {
        TestKit.sentence("and the place and the method as said; (the place)");
        for (int places = 1; places <= 6; places++) {
            for (int p = 0; p < places; p++) {
                for (int type = 0; type <= 3; type++) {
                    // All other places have what the instruction needs.
                    duePlace("21", type == INT, places, p, type, INT, TestKit.row(21, p));
                    duePlace("132", type == INT, places, p, type, INT, TestKit.row(132, p, 1));
                    duePlace("25", type == ROW || type == NULL, places, p, type, ROW, TestKit.row(25, p));
                }
            }
        }
        // 54 and 58 ask for nothing: the place has it then.
        for (int type = 0; type <= 3; type++) {
            dueCheck("54 over " + type, NONE, TestKit.method(NO, 0, 1, 1, TestKit.row(177, 54, 0, 21, 0, 177),
                TestKit.frame(1, TestKit.row(type), INT)));
            dueCheck("58 over " + type, NONE, TestKit.method(NO, 0, 1, 1, TestKit.row(177, 58, 0, 25, 0, 177),
                TestKit.frame(1, TestKit.row(type), ROW)));
            dueCheck("54 over " + type + " leaves no ROW", 3, TestKit.method(NO, 0, 1, 1,
                TestKit.row(177, 54, 0, 25, 0, 177), TestKit.frame(1, TestKit.row(type), INT)));
            dueCheck("58 over " + type + " leaves no INT", 3, TestKit.method(NO, 0, 1, 1,
                TestKit.row(177, 58, 0, 21, 0, 177), TestKit.frame(1, TestKit.row(type), ROW)));
        }
    }

    private static void duePlace(String what, boolean good, int places, int p, int type, int others, int[] instruction) {
        dueCheck(what + " of " + type + " in place " + p + " of " + places, good ? NONE : 1,
            TestKit.method(NO, 0, 1, places, TestKit.bytes(177, instruction, 177),
                TestKit.frame(1, TestKit.with(filled(places, others), p, type))));
    }

    private static void methodAsSaid() {
        TestKit.sentence("and the place and the method as said; (the method)");
        int[] codes = {177, 172, 176};
        int[] types = {INT, INT, ROW};
        for (int returns = 0; returns <= 2; returns++) {
            for (int k = 0; k <= 2; k++) {
                for (int height = 0; height <= 6; height++) {
                    int[] stack = filled(height, types[k]);
                    boolean good = k == returns && (k == 0 || height > 0);
                    dueCheck(codes[k] + " where " + returns + " is returned, on " + height, good ? NONE : 3,
                        TestKit.method(NO, returns, 6, 0, TestKit.row(167, 0, 0, codes[k]),
                            TestKit.frame(0, NO), TestKit.frame(3, NO, stack)));
                }
            }
        }
    }

    private static void depthFullAndPassed() {
        TestKit.sentence("afterwards no more may be on the stack than the depth.");
        for (Line line : TABLE) {
            String takes = line.takes();
            for (int depth = takes.length(); depth <= 6; depth++) {
                for (int below = 0; below + takes.length() <= depth; below++) {
                    dueCheck(line.name() + " on " + below + " at depth " + depth,
                        below + line.puts() <= depth ? NONE : 1,
                        onStack(line, depth, stackFor(below, takes)));
                }
            }
        }
    }

    private static void frameAtTheTarget() {
        TestKit.sentence("(4) If it has a target, there must be a frame at it,");
        for (int code : WITH_TARGET) {
            int[] stack = stackFor(0, takenBy(code));
            int[] before = TestKit.frame(1, NO, stack);
            int[] forward = {177, code, 0, 4, 177, 177};
            dueCheck(code + " to a frame", NONE,
                TestKit.method(NO, 0, 6, 0, forward, before, TestKit.frame(4, NO), TestKit.frame(5, NO)));
            dueCheck(code + " to no frame", 1, TestKit.method(NO, 0, 6, 0, forward, before, TestKit.frame(4, NO)));
            dueCheck(code + " to no frame behind it", 1, TestKit.method(NO, 0, 6, 0,
                TestKit.row(177, code, 0, 3, 177), before));
            dueCheck(code + " back to no frame", 1, TestKit.method(NO, 0, 6, 0,
                TestKit.row(177, code, 255, 255, 177), before, TestKit.frame(4, NO)));
            dueCheck(code + " back to a frame", NONE, TestKit.method(NO, 0, 6, 0,
                TestKit.row(177, code, 255, 255, 177), TestKit.frame(0, NO), before, TestKit.frame(4, NO)));
            dueCheck(code + " to itself", stack.length == 0 ? NONE : 1, TestKit.method(NO, 0, 6, 0,
                TestKit.row(177, code, 0, 0, 177), before, TestKit.frame(4, NO)));
        }
    }

    private static void stateBehindGoodForTarget() {
        TestKit.sentence("and the state behind the instruction must be good for that.");
        for (int code : WITH_TARGET) {
            int[] taken = stackFor(0, takenBy(code));
            int[] jump = {177, code, 0, 4, 177, 177};
            for (int type = 0; type <= 3; type++) {
                for (int declared = 0; declared <= 3; declared++) {
                    dueCheck(code + " with a place " + type + " to " + declared, isGood(type, declared) ? NONE : 1,
                        TestKit.method(NO, 0, 6, 2, jump, TestKit.frame(1, TestKit.row(0, type), taken),
                            TestKit.frame(4, TestKit.row(0, 0)), TestKit.frame(5, TestKit.row(0, declared))));
                    if (type > 0 && declared > 0) {
                        dueCheck(code + " with a value " + type + " to " + declared, isGood(type, declared) ? NONE : 1,
                            TestKit.method(NO, 0, 6, 0, jump, TestKit.frame(1, NO, TestKit.bytes(INT, type, taken)),
                                TestKit.frame(4, NO, INT, type), TestKit.frame(5, NO, INT, declared)));
                    }
                }
            }
            for (int height = 0; height <= 6; height++) {
                dueCheck(code + " to a stack of " + height, height == 2 ? NONE : 1,
                    TestKit.method(NO, 0, 6, 0, jump, TestKit.frame(1, NO, TestKit.bytes(INT, INT, taken)),
                        TestKit.frame(4, NO, INT, INT), TestKit.frame(5, NO, filled(height, INT))));
            }
        }
    }

    private static void noStateBehind() {
        TestKit.sentence("(5) Behind 167, 172, 176 and 177 there is no state.");
        dueCheck("167 as the end", NONE, TestKit.method(NO, 0, 0, 0, TestKit.row(167, 0, 0), TestKit.frame(0, NO)));
        dueCheck("172 as the end", NONE, TestKit.method(NO, 1, 1, 0, TestKit.row(16, 1, 172)));
        dueCheck("176 as the end", NONE, TestKit.method(NO, 2, 1, 0, TestKit.row(1, 176)));
        dueCheck("177 as the end", NONE, TestKit.method(NO, 0, 0, 0, TestKit.row(177)));
        // Behind every other one there is: none of them may be the end, nor stand before a frame not good for it.
        for (Line line : TABLE) {
            int[] code = TestKit.bytes(177, line.bytes());
            dueCheck(line.name() + " as the end", code.length, TestKit.method(NO, 0, 6, 1, code,
                TestKit.frame(1, TestKit.row(line.place()), stackFor(0, line.takes()))));
        }
        for (int code : WITH_TARGET) {
            if (code != 167) {
                dueCheck(code + " as the end", 4, TestKit.method(NO, 0, 6, 0, TestKit.row(177, code, 255, 255),
                    TestKit.frame(0, NO), TestKit.frame(1, NO, stackFor(0, takenBy(code)))));
            }
        }
    }

    private static void inTheEnd() {
        TestKit.sentence("In the end there must be none. (refused at the number of its bytes)");
        for (int length = 2; length <= 60; length += 2) {
            int[] code = new int[length];
            for (int k = 0; k < length; k += 2) {
                code[k] = 1;
                code[k + 1] = 87;
            }
            dueCheck("a code of " + length, length, TestKit.method(NO, 0, 1, 0, code));
            code[length - 1] = 176;
            dueCheck("a code of " + length + " that returns", NONE, TestKit.method(NO, 2, 1, 0, code));
        }
        dueCheck("a code of 1", 1, TestKit.method(NO, 0, 1, 0, TestKit.row(1)));
        dueCheck("a code of 3", 3, TestKit.method(TestKit.row(INT), 0, 0, 1, TestKit.row(132, 0, 0)));
    }

    private static void refusedAtTheFirst() {
        TestKit.sentence("The method is REFUSED at the offset of the first instruction at which this fails,");
        for (int before = 0; before <= 27; before++) {
            int[] code = {};
            for (int k = 0; k < before; k++) {
                code = TestKit.bytes(code, 1, 87);
            }
            dueCheck("the first of two behind " + before, 2 * before,
                TestKit.method(NO, 0, 1, 0, TestKit.bytes(code, 87, 46, 177)));
            dueCheck("the second of two behind " + before, 2 * before + 2,
                TestKit.method(NO, 0, 1, 0, TestKit.bytes(code, 16, 1, 46, 87)));
        }
        dueCheck("an instruction, not its operand", 3, TestKit.method(NO, 0, 1, 1, TestKit.row(16, 1, 87, 21, 0, 177)));
        dueCheck("one that no run comes to", 1, TestKit.method(NO, 0, 1, 0, TestKit.row(177, 87, 177),
            TestKit.frame(1, NO)));
        dueCheck("before the end", 0, TestKit.method(NO, 0, 1, 0, TestKit.row(87)));
    }

    private static void goodFor() {
        TestKit.sentence("NULL is also good where ROW is declared, and anything where NOTHING is; "
            + "otherwise types are good for the same alone.");
        for (int type = 0; type <= 3; type++) {
            for (int declared = 0; declared <= 3; declared++) {
                dueCheck(type + " in a place where " + declared + " is", isGood(type, declared) ? NONE : 1,
                    TestKit.method(NO, 0, 0, 1, TestKit.row(177, 167, 0, 3, 177),
                        TestKit.frame(1, TestKit.row(type)), TestKit.frame(4, TestKit.row(declared))));
            }
        }
        int[] parameters = {INT, ROW};
        for (int parameter : parameters) {
            for (int type = 1; type <= 3; type++) {
                int[] callee = TestKit.method(TestKit.row(parameter), 0, 0, 1, TestKit.row(177));
                int[] caller = TestKit.method(NO, 0, 1, 0, TestKit.row(177, 184, 1, 177), TestKit.frame(1, NO, type));
                VerifiedCode x = TestKit.loaded("a call", TestKit.file(TestKit.constants(), caller, callee));
                TestKit.due(type + " for a parameter " + parameter, x.check(0), isGood(type, parameter) ? NONE : 1);
            }
        }
    }

    private static VerifiedCode ofMethods(int count) {
        int[] file = TestKit.bytes(202, 0, count);
        for (int k = 0; k < count; k++) {
            // Method k is refused at 2 k.
            int[] code = {};
            for (int j = 0; j < k; j++) {
                code = TestKit.bytes(code, 1, 87);
            }
            file = TestKit.bytes(file, TestKit.method(NO, 0, 1, 0, TestKit.bytes(code, 87, 177)));
        }
        return TestKit.loaded(count + " methods", file);
    }

    private static void noProgram() {
        TestKit.sentence("IllegalStateException: there is no program; (check)");
        int[] methods = {0, 3, 4, -1, Integer.MIN_VALUE, Integer.MAX_VALUE};
        for (int m : methods) {
            TestKit.dueThrowAlone("check(" + m + ")", IllegalStateException.class, VerifiedCode::new, x -> x.check(m));
            TestKit.dueThrowAlone("check(" + m + ") of what is only typed", IllegalStateException.class,
                () -> TestKit.typed(fileAround(TestKit.method(NO, 0, 0, 0, TestKit.row(177)))), x -> x.check(m));
        }
    }

    private static void noSuchMethod() {
        TestKit.sentence("IllegalArgumentException: there is no such method. (check)");
        for (int count = 1; count <= 4; count++) {
            int n = count;
            int[] wrong = {-1, -2, n, n + 1, 4, 5, 255, Integer.MIN_VALUE, Integer.MAX_VALUE};
            for (int m : wrong) {
                TestKit.dueThrowAlone("check(" + m + ") of " + n, IllegalArgumentException.class, () -> ofMethods(n),
                    x -> x.check(m));
            }
            for (int m = 0; m < n; m++) {
                TestKit.due("check(" + m + ") of " + n, ofMethods(n).check(m), 2 * m);
            }
        }
        // Methods of a program before are no methods of this one.
        VerifiedCode x = ofMethods(4);
        TestKit.typeAll(x, TestKit.fileOf(TestKit.method(NO, 0, 0, 0, TestKit.row(177))));
        TestKit.due("read() of one method", x.read(), NONE);
        TestKit.dueThrow("check(1) of one method", IllegalArgumentException.class, () -> x.check(1));
        TestKit.due("check(0) of one method", x.check(0), NONE);
    }
}
