import java.util.Arrays;

/** What every promise says of exceptions: each call that throws, in every kind of state, on an object of its own. */
public final class ThrowsTest {
    private static final Class<?> ARGUMENT = IllegalArgumentException.class;
    private static final Class<?> STATE = IllegalStateException.class;
    private static final Class<?> INDEX = IndexOutOfBoundsException.class;
    private static final int MIN = Integer.MIN_VALUE;
    private static final int MAX = Integer.MAX_VALUE;
    private static final int MOST = 240;
    private static final int[] NO = {};

    private ThrowsTest() {
    }

    public static void main(String[] args) {
        TestKit.sentence("Methods throw what their comments name, the one named first when several would do; "
            + "a call that throws changes nothing. (without a program)");
        inState("new", false, VerifiedCode::new);
        inState("something typed", false, () -> TestKit.typed(TestKit.row(1, 2, 3)));
        inState("a file typed, not read", false, () -> TestKit.typed(program()));
        inState("full", false, () -> TestKit.typed(full()));
        inState("a file that failed", false, ThrowsTest::failed);
        TestKit.sentence("Methods throw what their comments name, the one named first when several would do; "
            + "a call that throws changes nothing. (with a program)");
        inState("read", true, () -> TestKit.loaded("read", program()));
        inState("read, nothing typed", true, ThrowsTest::cleared);
        inState("read, then full", true, ThrowsTest::readThenFull);
        inState("run", true, ThrowsTest::ran);
        inState("run, then stuck", true, ThrowsTest::stuck);
        TestKit.sentence("a call that throws changes nothing. (what comes behind it answers as if it had not been)");
        manyThrows();
        TestKit.end("ThrowsTest");
    }

    /** Two methods: one that gives its INT back, one that is stuck. */
    private static int[] program() {
        return TestKit.file(TestKit.constants(5), TestKit.method(TestKit.row(1), 1, 1, 1, TestKit.row(21, 0, 172)),
            TestKit.method(NO, 0, 1, 0, TestKit.row(18, 0, 87, 87)));
    }

    private static int[] full() {
        int[] row = new int[MOST];
        Arrays.fill(row, 202);
        return row;
    }

    private static VerifiedCode failed() {
        VerifiedCode x = TestKit.typed(Arrays.copyOf(program(), 20));
        TestKit.due("it fails", x.read(), 20);
        return x;
    }

    private static VerifiedCode cleared() {
        VerifiedCode x = TestKit.loaded("cleared", program());
        x.clear();
        return x;
    }

    private static VerifiedCode readThenFull() {
        VerifiedCode x = TestKit.loaded("full", program());
        TestKit.typeAll(x, full());
        return x;
    }

    private static VerifiedCode ran() {
        VerifiedCode x = TestKit.loaded("ran", program());
        TestKit.due("run", x.run(0, 99, 0, 0), VerifiedCode.DONE);
        return x;
    }

    private static VerifiedCode stuck() {
        VerifiedCode x = ran();
        TestKit.due("run of the second", x.run(1, 0, 0, 0), VerifiedCode.STUCK);
        return x;
    }

    private static void inState(String state, boolean hasProgram, TestKit.Source source) {
        int size = source.make().size();
        int[] notCounts = {MIN, -1, 0, 9, MAX};
        for (int n : notCounts) {
            TestKit.dueThrowAlone(state + ": type(1, " + n + ")", ARGUMENT, source, x -> x.type(1, n));
        }
        for (int n = 1; n <= 8; n++) {
            int count = n;
            if (size + n > MOST) {
                TestKit.dueThrowAlone(state + ": type(1, " + n + ")", STATE, source, x -> x.type(1, count));
            }
        }
        int[] notPlaces = {MIN, -1, size, size + 1, MAX};
        int[] notBytes = {MIN, -1, 256, MAX};
        for (int k : notPlaces) {
            TestKit.dueThrowAlone(state + ": byteAt(" + k + ")", INDEX, source, x -> x.byteAt(k));
            TestKit.dueThrowAlone(state + ": poke(" + k + ", 9)", INDEX, source, x -> x.poke(k, 9));
            for (int b : notBytes) {
                TestKit.dueThrowAlone(state + ": poke(" + k + ", " + b + ")", INDEX, source, x -> x.poke(k, b));
            }
        }
        for (int b : notBytes) {
            if (size > 0) {
                TestKit.dueThrowAlone(state + ": poke(0, " + b + ")", ARGUMENT, source, x -> x.poke(0, b));
                TestKit.dueThrowAlone(state + ": poke(last, " + b + ")", ARGUMENT, source, x -> x.poke(size - 1, b));
            }
        }
        onMethods(state, hasProgram, source);
    }

    private static void onMethods(String state, boolean hasProgram, TestKit.Source source) {
        int[] notMethods = {MIN, -1, 2, 3, 4, MAX};
        for (int m : notMethods) {
            Class<?> want = hasProgram ? ARGUMENT : STATE;
            TestKit.dueThrowAlone(state + ": check(" + m + ")", want, source, x -> x.check(m));
            TestKit.dueThrowAlone(state + ": run(" + m + ", ..)", want, source, x -> x.run(m, 1, 2, 3));
        }
        if (!hasProgram) {
            TestKit.dueThrowAlone(state + ": write()", STATE, source, VerifiedCode::write);
            for (int m = 0; m < 2; m++) {
                int method = m;
                TestKit.dueThrowAlone(state + ": check(" + m + ")", STATE, source, x -> x.check(method));
                TestKit.dueThrowAlone(state + ": run(" + m + ", ..)", STATE, source, x -> x.run(method, 1, 2, 3));
            }
        }
    }

    private static void throwAll(VerifiedCode x) {
        TestKit.dueThrow("type", ARGUMENT, () -> x.type(1, 0));
        TestKit.dueThrow("byteAt", INDEX, () -> x.byteAt(x.size()));
        TestKit.dueThrow("poke", INDEX, () -> x.poke(x.size(), 0));
        if (x.size() > 0) {
            TestKit.dueThrow("poke", ARGUMENT, () -> x.poke(x.size() - 1, 256));
        }
        Class<?> want = x.methods() > 0 ? ARGUMENT : STATE;
        TestKit.dueThrow("check", want, () -> x.check(4));
        TestKit.dueThrow("run", want, () -> x.run(4, 0, 0, 0));
        if (x.methods() == 0) {
            TestKit.dueThrow("write", STATE, x::write);
        }
    }

    /** A life of two objects, of which one makes all calls that throw in between. */
    private static void manyThrows() {
        VerifiedCode x = new VerifiedCode();
        VerifiedCode quiet = new VerifiedCode();
        throwAll(x);
        TestKit.typeAll(x, program());
        TestKit.typeAll(quiet, program());
        throwAll(x);
        TestKit.due("read()", x.read(), quiet.read());
        throwAll(x);
        TestKit.due("run(0, ..)", x.run(0, 12, 0, 0), quiet.run(0, 12, 0, 0));
        throwAll(x);
        TestKit.due("result()", x.result(), quiet.result());
        TestKit.due("run(1, ..)", x.run(1, 0, 0, 0), quiet.run(1, 0, 0, 0));
        throwAll(x);
        TestKit.due("steps()", x.steps(), quiet.steps());
        TestKit.due("type", x.type(7, 3), quiet.type(7, 3));
        throwAll(x);
        TestKit.due("read() of too much", x.read(), quiet.read());
        throwAll(x);
        TestKit.dueSame("in the end", x, quiet);
    }
}
