/** Promise 10: check. */
public final class CheckTest {
    private static final int NONE = VerifiedCode.NONE;
    private static final int[] NO = {};

    /**
     * Each instruction: its bytes (targets go behind it), what it takes and puts (I INT, R ROW, N NULL,
     * A any), the type that place 0 must have, and what the place has behind it ('=' as before).
     * '1' and '2' among the puts are the first and second value taken, 'p' is what the place has.
     */
    private static final String[][] TABLE = {
        {"1", "", "N", "A", "="}, {"16 200", "", "I", "A", "="}, {"18 0", "", "I", "A", "="},
        {"21 0", "", "I", "I", "="}, {"25 0", "", "p", "R", "="},
        {"54 0", "I", "", "A", "1"}, {"58 0", "R", "", "A", "1"},
        {"46", "RI", "I", "A", "="}, {"79", "RII", "", "A", "="},
        {"87", "A", "", "A", "="}, {"89", "A", "11", "A", "="}, {"95", "AA", "21", "A", "="},
        {"96", "II", "I", "A", "="}, {"100", "II", "I", "A", "="}, {"104", "II", "I", "A", "="},
        {"108", "II", "I", "A", "="}, {"116", "I", "I", "A", "="}, {"132 0 255", "", "", "I", "="},
        {"153 0 3", "I", "", "A", "="}, {"154 0 3", "I", "", "A", "="}, {"155 0 3", "I", "", "A", "="},
        {"156 0 3", "I", "", "A", "="}, {"157 0 3", "I", "", "A", "="}, {"158 0 3", "I", "", "A", "="},
        {"159 0 3", "II", "", "A", "="}, {"160 0 3", "II", "", "A", "="}, {"161 0 3", "II", "", "A", "="},
        {"162 0 3", "II", "", "A", "="}, {"163 0 3", "II", "", "A", "="}, {"164 0 3", "II", "", "A", "="},
        {"167 0 3", "", "", "A", "="}, {"198 0 3", "R", "", "A", "="}, {"199 0 3", "R", "", "A", "="},
        {"184 1", "", "I", "A", "="}, {"184 2", "IRI", "R", "A", "="}, {"184 3", "R", "", "A", "="},
        {"188", "I", "R", "A", "="}, {"190", "R", "I", "A", "="},
    };

    private CheckTest() {
    }

    public static void main(String[] args) {
        for (String[] line : TABLE) {
            everyState(line);
        }
        wrongCalls();
        returns();
        depth();
        beginning();
        framesAndStates();
        greatFrames();
        typesOfFrames();
        targets();
        ends();
        firstRefusal();
        changesNothing();
        eachMethodApart();
        TestKit.end("CheckTest");
    }

    private static int[] numbers(String text) {
        String[] parts = text.split(" ");
        int[] row = new int[parts.length];
        for (int k = 0; k < row.length; k++) {
            row[k] = Integer.parseInt(parts[k]);
        }
        return row;
    }

    /** All stacks of up to three values and all types of the place, from a frame behind a return. */
    private static void everyState(String[] line) {
        for (int place = 0; place <= 3; place++) {
            for (int height = 0; height <= 3; height++) {
                int many = (int) Math.pow(3, height);
                for (int n = 0; n < many; n++) {
                    int[] stack = new int[height];
                    for (int k = 0, rest = n; k < height; k++, rest /= 3) {
                        stack[k] = 1 + rest % 3;
                    }
                    oneState(line, place, stack);
                }
            }
        }
    }

    private static boolean fits(int type, char letter) {
        return letter == 'A' || (letter == 'I' ? type == 1 : type == 2 || type == 3);
    }

    private static boolean allowed(String[] line, int place, int[] stack) {
        String takes = line[1];
        if (stack.length < takes.length() || !fits(place, line[3].charAt(0))) {
            return false;
        }
        for (int k = 0; k < takes.length(); k++) {
            if (!fits(stack[stack.length - takes.length() + k], takes.charAt(k))) {
                return false;
            }
        }
        return true;
    }

    private static int[] stackBehind(String[] line, int place, int[] stack) {
        int kept = stack.length - line[1].length();
        int[] behind = new int[kept + line[2].length()];
        System.arraycopy(stack, 0, behind, 0, kept);
        for (int k = 0; k < line[2].length(); k++) {
            switch (line[2].charAt(k)) {
                case 'I': behind[kept + k] = 1; break;
                case 'R': behind[kept + k] = 2; break;
                case 'N': behind[kept + k] = 3; break;
                case '1': behind[kept + k] = stack[kept]; break;
                case '2': behind[kept + k] = stack[kept + 1]; break;
                default: behind[kept + k] = place; break;
            }
        }
        return behind;
    }

    private static void oneState(String[] line, int place, int[] stack) {
        int[] instruction = numbers(line[0]);
        int next = 1 + instruction.length;
        String what = line[0] + " at place " + place + " stack " + java.util.Arrays.toString(stack);
        if (!allowed(line, place, stack)) {
            due(what, 1, instruction, place, stack, 0, stack);
            return;
        }
        int[] behind = stackBehind(line, place, stack);
        int placeBehind = line[4].equals("1") ? stack[stack.length - 1] : place;
        due(what + " behind it as due", NONE, instruction, place, stack, placeBehind, behind);
        // Every other type in a frame behind it is good only by the rules of NULL and NOTHING. The
        // instructions with a target fail at themselves, the others at the frame.
        int refused = line[0].endsWith(" 0 3") ? 1 : next;
        for (int other = 0; other <= 3; other++) {
            boolean good = other == 0 || other == placeBehind || (other == 2 && placeBehind == 3);
            due(what + " place behind " + other, good ? NONE : refused, instruction, place, stack, other, behind);
        }
        for (int k = 0; k < behind.length; k++) {
            for (int other = 1; other <= 3; other++) {
                int[] changed = behind.clone();
                changed[k] = other;
                boolean good = other == behind[k] || (other == 2 && behind[k] == 3);
                due(what + " value " + k + " behind " + other, good ? NONE : refused,
                    instruction, place, stack, placeBehind, changed);
            }
        }
    }

    private static void due(String what, int want, int[] instruction, int place, int[] stack,
            int placeBehind, int[] behind) {
        int[] code = TestKit.bytes(177, instruction, 177);
        int[] method = TestKit.method(NO, 0, 6, 1, code, TestKit.frame(1, TestKit.row(place), stack),
            TestKit.frame(1 + instruction.length, TestKit.row(placeBehind), behind));
        dueCheck(what, want, method);
    }

    /** Methods 1 to 3 are there to be called: () -> INT, (INT ROW INT) -> ROW, (ROW) -> nothing. */
    private static int[] fileAround(int[] method) {
        return TestKit.file(TestKit.constants(7), method,
            TestKit.method(NO, 1, 1, 0, TestKit.row(16, 1, 172)),
            TestKit.method(TestKit.row(1, 2, 1), 2, 1, 3, TestKit.row(25, 1, 176)),
            TestKit.method(TestKit.row(2), 0, 0, 1, TestKit.row(177)));
    }

    private static void dueCheck(String what, int want, int[] method) {
        VerifiedCode x = TestKit.loaded(what, fileAround(method));
        TestKit.due(what + ": check(0)", x.check(0), want);
    }

    private static void wrongCalls() {
        VerifiedCode x = TestKit.loaded("wrong calls", fileAround(TestKit.method(NO, 0, 0, 0, TestKit.row(177))));
        int[] wrong = {-1, 4, Integer.MIN_VALUE, Integer.MAX_VALUE};
        for (int m : wrong) {
            TestKit.dueThrow("check(" + m + ")", IllegalArgumentException.class, () -> x.check(m));
        }
        for (int m = 0; m < 4; m++) {
            TestKit.due("check(" + m + ")", x.check(m), NONE);
        }
    }

    private static void returns() {
        int[][] codes = {{177}, {16, 1, 172}, {1, 176}};
        for (int returns = 0; returns <= 2; returns++) {
            for (int k = 0; k <= 2; k++) {
                int at = codes[k].length - 1;
                dueCheck("return " + k + " in a method that returns " + returns, k == returns ? NONE : at,
                    TestKit.method(NO, returns, 1, 0, codes[k]));
            }
        }
        dueCheck("172 of a ROW", 2, TestKit.method(TestKit.row(2), 1, 1, 1, TestKit.row(25, 0, 172)));
        dueCheck("172 of NULL", 1, TestKit.method(NO, 1, 1, 0, TestKit.row(1, 172)));
        dueCheck("172 of none", 0, TestKit.method(NO, 1, 1, 0, TestKit.row(172)));
        dueCheck("176 of a ROW", NONE, TestKit.method(TestKit.row(2), 2, 1, 1, TestKit.row(25, 0, 176)));
        dueCheck("176 of an INT", 2, TestKit.method(NO, 2, 1, 0, TestKit.row(16, 1, 176)));
        dueCheck("176 of none", 0, TestKit.method(NO, 2, 1, 0, TestKit.row(176)));
        dueCheck("values may be left", NONE, TestKit.method(NO, 1, 2, 0, TestKit.row(1, 16, 0, 172)));
    }

    private static void depth() {
        dueCheck("1 at depth 0", 0, TestKit.method(NO, 0, 0, 0, TestKit.row(1, 177)));
        dueCheck("1 1 at depth 1", 1, TestKit.method(NO, 0, 1, 0, TestKit.row(1, 1, 177)));
        dueCheck("1 1 at depth 2", NONE, TestKit.method(NO, 0, 2, 0, TestKit.row(1, 1, 177)));
        dueCheck("six at depth 6", NONE, TestKit.method(NO, 0, 6, 0, TestKit.row(1, 1, 1, 1, 1, 1, 177)));
        dueCheck("seven at depth 6", 6, TestKit.method(NO, 0, 6, 0, TestKit.row(1, 1, 1, 1, 1, 1, 1, 177)));
        dueCheck("89 at depth 1", 1, TestKit.method(NO, 0, 1, 0, TestKit.row(1, 89, 177)));
        dueCheck("89 at depth 2", NONE, TestKit.method(NO, 0, 2, 0, TestKit.row(1, 89, 177)));
        dueCheck("116 at depth 1", NONE, TestKit.method(NO, 0, 1, 0, TestKit.row(16, 1, 116, 177)));
        dueCheck("188 at depth 1", NONE, TestKit.method(NO, 0, 1, 0, TestKit.row(16, 1, 188, 177)));
        dueCheck("184 at depth 0", 0, TestKit.method(NO, 0, 0, 0, TestKit.row(184, 1, 177)));
        dueCheck("184 at depth 1", NONE, TestKit.method(NO, 0, 1, 0, TestKit.row(184, 1, 177)));
        dueCheck("184 with parameters at depth 3", NONE,
            TestKit.method(NO, 0, 3, 0, TestKit.row(16, 1, 1, 16, 2, 184, 2, 177)));
        dueCheck("21 at depth 0", 0, TestKit.method(TestKit.row(1), 0, 0, 1, TestKit.row(21, 0, 177)));
        dueCheck("25 at depth 0", 0, TestKit.method(TestKit.row(2), 0, 0, 1, TestKit.row(25, 0, 177)));
        dueCheck("16 at depth 0", 0, TestKit.method(NO, 0, 0, 0, TestKit.row(16, 5, 177)));
        dueCheck("18 at depth 0", 0, TestKit.method(NO, 0, 0, 0, TestKit.row(18, 0, 177)));
    }

    private static void beginning() {
        int[] parameters = {1, 2, 1};
        dueCheck("INT parameter", NONE, TestKit.method(parameters, 0, 1, 4, TestKit.row(21, 0, 177)));
        dueCheck("ROW parameter", NONE, TestKit.method(parameters, 0, 1, 4, TestKit.row(25, 1, 177)));
        dueCheck("INT parameter behind", NONE, TestKit.method(parameters, 0, 1, 4, TestKit.row(21, 2, 177)));
        dueCheck("INT parameter as ROW", 0, TestKit.method(parameters, 0, 1, 4, TestKit.row(25, 0, 177)));
        dueCheck("ROW parameter as INT", 0, TestKit.method(parameters, 0, 1, 4, TestKit.row(21, 1, 177)));
        dueCheck("NOTHING as INT", 0, TestKit.method(parameters, 0, 1, 4, TestKit.row(21, 3, 177)));
        dueCheck("NOTHING as ROW", 0, TestKit.method(parameters, 0, 1, 4, TestKit.row(25, 3, 177)));
        dueCheck("NOTHING grows", 0, TestKit.method(parameters, 0, 1, 4, TestKit.row(132, 3, 1, 177)));
        dueCheck("the stack is empty", 0, TestKit.method(parameters, 0, 1, 4, TestKit.row(87, 177)));
        dueCheck("a frame at 0", NONE, TestKit.method(parameters, 0, 1, 4, TestKit.row(177),
            TestKit.frame(0, TestKit.row(1, 2, 1, 0))));
        dueCheck("a frame at 0 that forgets", 0, TestKit.method(parameters, 0, 1, 4, TestKit.row(21, 0, 177),
            TestKit.frame(0, TestKit.row(0, 0, 0, 0))));
        dueCheck("a frame at 0 that wants more", 0, TestKit.method(parameters, 0, 1, 4, TestKit.row(177),
            TestKit.frame(0, TestKit.row(1, 2, 1, 1))));
        dueCheck("a frame at 0 with a stack", 0, TestKit.method(parameters, 0, 1, 4, TestKit.row(177),
            TestKit.frame(0, TestKit.row(1, 2, 1, 0), 1)));
        int[] returnsInt = {21, 0, 172};
        dueCheck("NOTHING behind no parameter", 0, TestKit.method(NO, 1, 1, 1, returnsInt));
        dueCheck("NOTHING behind one parameter", 0, TestKit.method(TestKit.row(1), 1, 1, 2, TestKit.row(21, 1, 172)));
        dueCheck("NOTHING behind two parameters", 0, TestKit.method(TestKit.row(1, 1), 1, 1, 3,
            TestKit.row(21, 2, 172)));
        dueCheck("NOTHING behind three parameters", 0, TestKit.method(TestKit.row(1, 1, 1), 1, 1, 4,
            TestKit.row(21, 3, 172)));
        // A check before must leave nothing behind for the next.
        VerifiedCode x = TestKit.loaded("twice", fileAround(
            TestKit.method(NO, 0, 1, 1, TestKit.row(16, 1, 54, 0, 1, 177))));
        TestKit.due("first check", x.check(0), NONE);
        TestKit.due("check of another", x.check(3), NONE);
        TestKit.due("second check", x.check(0), NONE);
    }

    private static void framesAndStates() {
        dueCheck("no frame behind 167", 3, TestKit.method(NO, 0, 0, 0, TestKit.row(167, 0, 4, 177, 177),
            TestKit.frame(4, NO)));
        dueCheck("no frame behind 177", 1, TestKit.method(NO, 0, 0, 0, TestKit.row(177, 177)));
        dueCheck("no frame behind 172", 3, TestKit.method(NO, 1, 1, 0, TestKit.row(16, 1, 172, 16, 1, 172)));
        dueCheck("no frame behind 176", 2, TestKit.method(NO, 2, 1, 0, TestKit.row(1, 176, 1, 176)));
        dueCheck("a frame behind 177", NONE, TestKit.method(NO, 0, 0, 0, TestKit.row(177, 177),
            TestKit.frame(1, NO)));
        dueCheck("more on the stack than the frame", 1, TestKit.method(NO, 0, 2, 0, TestKit.row(1, 177),
            TestKit.frame(1, NO)));
        dueCheck("fewer on the stack than the frame", 1, TestKit.method(NO, 0, 2, 0, TestKit.row(1, 177),
            TestKit.frame(1, NO, 3, 3)));
        dueCheck("the state is the frame's: NULL became ROW", 1, TestKit.method(NO, 0, 2, 0,
            TestKit.row(1, 167, 0, 3, 177), TestKit.frame(1, NO, 2), TestKit.frame(4, NO, 3)));
    }

    /** As many of everything as a frame can have, and as many frames as a method can have. */
    private static void greatFrames() {
        int[] places = {0, 1, 2, 3, 1, 2};
        int[] stack = {1, 2, 3, 1, 2, 3};
        dueCheck("the greatest frame", NONE, TestKit.method(NO, 0, 6, 6,
            TestKit.row(177, 167, 0, 0), TestKit.frame(1, places, stack)));
        dueCheck("the greatest frame, its last place", 1, TestKit.method(NO, 0, 6, 6,
            TestKit.row(177, 167, 0, 3, 177), TestKit.frame(1, places, stack),
            TestKit.frame(4, TestKit.row(0, 1, 2, 3, 1, 1), stack)));
        dueCheck("the greatest frame, its last value", 1, TestKit.method(NO, 0, 6, 6,
            TestKit.row(177, 167, 0, 3, 177), TestKit.frame(1, places, stack),
            TestKit.frame(4, places, 1, 2, 3, 1, 2, 1)));
        int[] code = {177, 177, 177, 177, 177, 177, 177, 177, 177, 177};
        int[][] frames = new int[8][];
        for (int k = 0; k < 8; k++) {
            frames[k] = TestKit.frame(k + 1, NO);
        }
        dueCheck("eight frames, and none behind them", 9, TestKit.method(NO, 0, 0, 0, code, frames));
        // The frames of a program before are no frames of this one, though it has fewer.
        int[] one = TestKit.fileOf(TestKit.method(NO, 0, 0, 0, TestKit.row(177, 177, 177), TestKit.frame(1, NO)));
        int[] two = TestKit.fileOf(TestKit.method(NO, 0, 0, 0, TestKit.row(177, 177, 177),
            TestKit.frame(1, NO), TestKit.frame(2, NO)));
        VerifiedCode x = TestKit.loaded("two frames", two);
        TestKit.due("two frames: check(0)", x.check(0), NONE);
        for (int k = 0; k < 3; k++) {
            TestKit.typeAll(x, one);
            TestKit.due("one frame: read()", x.read(), NONE);
            TestKit.due("one frame: check(0)", x.check(0), 2);
        }
    }

    private static void typesOfFrames() {
        dueCheck("a NULL stays one in its place", NONE, TestKit.method(NO, 0, 1, 1, TestKit.row(1, 58, 0, 177),
            TestKit.frame(3, TestKit.row(3))));
        dueCheck("a ROW is no NULL in its place", 4, TestKit.method(TestKit.row(2), 0, 1, 2,
            TestKit.row(25, 0, 58, 1, 177), TestKit.frame(4, TestKit.row(2, 3))));
        dueCheck("a place that has NULL gives NULL", NONE, TestKit.method(NO, 0, 1, 1,
            TestKit.row(1, 58, 0, 25, 0, 177), TestKit.frame(5, TestKit.row(3), 3)));
        dueCheck("a place takes another type", NONE, TestKit.method(TestKit.row(1), 0, 1, 1,
            TestKit.row(1, 58, 0, 16, 1, 54, 0, 21, 0, 177)));
    }

    private static void targets() {
        dueCheck("a loop", NONE, TestKit.method(TestKit.row(1), 0, 1, 1,
            TestKit.row(132, 0, 255, 21, 0, 157, 255, 251, 177), TestKit.frame(0, TestKit.row(1))));
        dueCheck("no frame at the target", 5, TestKit.method(TestKit.row(1), 0, 1, 1,
            TestKit.row(132, 0, 255, 21, 0, 157, 255, 251, 177)));
        dueCheck("a frame not at the target", 5, TestKit.method(TestKit.row(1), 0, 1, 1,
            TestKit.row(132, 0, 255, 21, 0, 157, 255, 251, 177), TestKit.frame(3, TestKit.row(1))));
        dueCheck("the place is not good for the target", 6, TestKit.method(TestKit.row(1), 0, 1, 1,
            TestKit.row(132, 0, 255, 1, 58, 0, 167, 255, 250), TestKit.frame(0, TestKit.row(1))));
        dueCheck("the stack is looked at behind the instruction", NONE, TestKit.method(TestKit.row(1), 0, 2, 1,
            TestKit.row(1, 21, 0, 153, 0, 3, 177), TestKit.frame(6, TestKit.row(1), 3)));
        dueCheck("the stack is another at the target", 3, TestKit.method(TestKit.row(1), 0, 2, 1,
            TestKit.row(1, 21, 0, 153, 0, 3, 177), TestKit.frame(6, TestKit.row(1), 3, 1)));
        dueCheck("167 to itself", NONE, TestKit.method(NO, 0, 0, 0, TestKit.row(167, 0, 0),
            TestKit.frame(0, NO)));
    }

    private static void ends() {
        dueCheck("the end has a state", 1, TestKit.method(NO, 0, 1, 0, TestKit.row(1)));
        dueCheck("the end has a state behind 153", 5, TestKit.method(NO, 0, 1, 0, TestKit.row(16, 1, 153, 255, 254),
            TestKit.frame(0, NO)));
        dueCheck("the end behind 184", 2, TestKit.method(NO, 0, 1, 0, TestKit.row(184, 1)));
        int[] code = new int[60];
        for (int k = 0; k < 60; k += 2) {
            code[k] = 1;
            code[k + 1] = 87;
        }
        dueCheck("the end of the longest code", 60, TestKit.method(NO, 0, 1, 0, code));
    }

    private static void firstRefusal() {
        dueCheck("two that are refused", 0, TestKit.method(NO, 0, 1, 0, TestKit.row(87, 87, 87)));
        dueCheck("code that never runs is checked", 2, TestKit.method(NO, 0, 1, 0, TestKit.row(177, 87, 87, 177),
            TestKit.frame(1, NO, 1)));
    }

    private static void changesNothing() {
        VerifiedCode x = TestKit.loaded("changes nothing", fileAround(
            TestKit.method(NO, 1, 1, 0, TestKit.row(16, 9, 172))));
        x.run(0, 0, 0, 0);
        int size = x.size();
        TestKit.due("check(0)", x.check(0), NONE);
        TestKit.due("result() after check", x.result(), 9);
        TestKit.due("steps() after check", x.steps(), 2);
        TestKit.due("size() after check", x.size(), size);
    }

    private static void eachMethodApart() {
        int[] bad = TestKit.method(NO, 0, 1, 0, TestKit.row(87, 177));
        int[] caller = TestKit.method(NO, 0, 0, 0, TestKit.row(184, 1, 177));
        VerifiedCode x = TestKit.loaded("apart", TestKit.file(TestKit.constants(), caller, bad));
        TestKit.due("the caller of a refused method", x.check(0), NONE);
        TestKit.due("the refused method", x.check(1), 0);
    }
}
