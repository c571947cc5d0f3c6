import java.util.Arrays;

/** Each sentence of promises 1 to 6 that names a boundary case. */
public final class TypedFileSentencesTest {
    private static final int MIN = Integer.MIN_VALUE;
    private static final int MAX = Integer.MAX_VALUE;
    private static final int MOST = 240;
    private static final Class<?> ARGUMENT = IllegalArgumentException.class;
    private static final Class<?> STATE = IllegalStateException.class;
    private static final Class<?> INDEX = IndexOutOfBoundsException.class;
    private static final int[] NOT_A_NUMBER_OF_BYTES = {0, -1, -8, 9, 10, 16, 240, 241, 257, MIN, MIN + 1, MAX};
    private static final int[] NOT_A_BYTE = {-1, -2, -128, -255, -256, 256, 257, 511, 512, MIN, MAX};
    private static final int[] SIZES = {0, 1, 7, 8, 9, 239, 240};

    private TypedFileSentencesTest() {
    }

    public static void main(String[] args) {
        nothingTyped();
        noProgram();
        newObjectsApart();
        typing();
        typingWrongNumbers();
        typingTooMuch();
        poking();
        pokingNoByte();
        pokingNoByteValue();
        sizes();
        bytes();
        noBytes();
        clearing();
        TestKit.end("TypedFileSentencesTest");
    }

    /** Byte k is 255 - k mod 256, so that no two neighbours are alike and none is 0 by chance. */
    private static int[] bytesOf(int size) {
        int[] row = new int[size];
        for (int k = 0; k < size; k++) {
            row[k] = 255 - k % 256;
        }
        return row;
    }

    private static VerifiedCode typed(int size) {
        return TestKit.typed(bytesOf(size));
    }

    private static int[] program() {
        return TestKit.fileOf(TestKit.method(TestKit.row(1), 1, 1, 1, TestKit.row(21, 0, 172)));
    }

    /** A program, a run that was DONE with result 77 in 2 steps, and its file typed. */
    private static VerifiedCode ran() {
        VerifiedCode x = TestKit.loaded("ran", program());
        TestKit.due("run", x.run(0, 77, 0, 0), VerifiedCode.DONE);
        return x;
    }

    private static int[] notIndexes(int size) {
        return new int[] {-1, -2, size, size + 1, MOST, MOST + 1, 255, 256, 512, MIN, MIN + 1, MAX, MAX - 1};
    }

    private static void nothingTyped() {
        TestKit.sentence("Nothing is typed; there is no program. (nothing is typed)");
        TestKit.due("size()", new VerifiedCode().size(), 0);
        TestKit.due("read()", new VerifiedCode().read(), 0);
        for (int k : notIndexes(0)) {
            TestKit.dueThrowAlone("byteAt(" + k + ")", INDEX, VerifiedCode::new, x -> x.byteAt(k));
            TestKit.dueThrowAlone("poke(" + k + ", 0)", INDEX, VerifiedCode::new, x -> x.poke(k, 0));
            TestKit.dueThrowAlone("poke(" + k + ", 256)", INDEX, VerifiedCode::new, x -> x.poke(k, 256));
        }
        TestKit.due("type(9, 1)", new VerifiedCode().type(9, 1), 1);
        VerifiedCode x = new VerifiedCode();
        x.clear();
        TestKit.dueSame("clear()", x, new VerifiedCode());
        VerifiedCode y = new VerifiedCode();
        TestKit.due("read() once", y.read(), 0);
        TestKit.due("read() twice", y.read(), 0);
        TestKit.dueSame("read()", y, new VerifiedCode());
    }

    private static void noProgram() {
        TestKit.sentence("Nothing is typed; there is no program. (there is no program)");
        TestKit.due("methods()", new VerifiedCode().methods(), 0);
        TestKit.due("result()", new VerifiedCode().result(), 0);
        TestKit.due("steps()", new VerifiedCode().steps(), 0);
        TestKit.dueThrowAlone("write()", STATE, VerifiedCode::new, VerifiedCode::write);
        int[] methods = {0, 1, 3, 4, -1, MIN, MAX};
        for (int m : methods) {
            TestKit.dueThrowAlone("check(" + m + ")", STATE, VerifiedCode::new, x -> x.check(m));
            TestKit.dueThrowAlone("run(" + m + ", ..)", STATE, VerifiedCode::new, x -> x.run(m, 1, 2, 3));
        }
        // Typing alone makes no program, and neither does a file that fails.
        TestKit.due("methods() of what is only typed", TestKit.typed(program()).methods(), 0);
        TestKit.dueThrowAlone("write() of what is only typed", STATE, () -> TestKit.typed(program()),
            VerifiedCode::write);
        TestKit.dueThrowAlone("check(0) of what is only typed", STATE, () -> TestKit.typed(program()),
            x -> x.check(0));
        TestKit.dueThrowAlone("run(0, ..) of what is only typed", STATE, () -> TestKit.typed(program()),
            x -> x.run(0, 1, 2, 3));
    }

    private static void newObjectsApart() {
        TestKit.sentence("Nothing is typed; there is no program. (whatever other objects have)");
        VerifiedCode before = new VerifiedCode();
        VerifiedCode x = ran();
        TestKit.due("methods() of the other", x.methods(), 1);
        TestKit.due("result() of the other", x.result(), 77);
        TestKit.due("size() of one made before", before.size(), 0);
        TestKit.due("methods() of one made before", before.methods(), 0);
        TestKit.due("result() of one made before", before.result(), 0);
        TestKit.due("steps() of one made before", before.steps(), 0);
        TestKit.dueSame("one made behind", new VerifiedCode(), before);
    }

    private static void typing() {
        TestKit.sentence("Types the n lowest bytes behind the file, the highest of them first: how many are typed now.");
        long[] numbers = {0x8182838485868788L, 0x0102030405060708L, 0L, -1L, -2L, 255L, 256L, 1L << 32,
            Long.MIN_VALUE, Long.MAX_VALUE, Integer.MIN_VALUE};
        for (long number : numbers) {
            for (int n = 1; n <= 8; n++) {
                VerifiedCode x = new VerifiedCode();
                String what = "type(" + number + ", " + n + ")";
                TestKit.due(what, x.type(number, n), n);
                TestKit.due(what + " behind it", x.type(number, n), 2 * n);
                for (int k = 0; k < 2 * n; k++) {
                    int shift = 8 * (n - 1 - k % n);
                    TestKit.due(what + " byteAt(" + k + ")", x.byteAt(k), (number >>> shift) & 255);
                }
            }
        }
    }

    private static void typingWrongNumbers() {
        TestKit.sentence("IllegalArgumentException: n is not 1 .. 8");
        for (int size : SIZES) {
            for (int n : NOT_A_NUMBER_OF_BYTES) {
                TestKit.dueThrowAlone("type(5, " + n + ") at " + size, ARGUMENT, () -> typed(size), x -> x.type(5, n));
            }
        }
    }

    private static void typingTooMuch() {
        TestKit.sentence("IllegalStateException: the file would have more than 240.");
        for (int size = MOST - 9; size <= MOST; size++) {
            for (int n = 1; n <= 8; n++) {
                int at = size;
                int count = n;
                String what = "type(-1, " + n + ") at " + size;
                if (size + n > MOST) {
                    TestKit.dueThrowAlone(what, STATE, () -> typed(at), x -> x.type(-1L, count));
                } else {
                    VerifiedCode x = typed(size);
                    TestKit.due(what, x.type(-1L, n), size + n);
                    int[] want = Arrays.copyOf(bytesOf(size), size + n);
                    Arrays.fill(want, size, size + n, 255);
                    TestKit.dueBytes(what, x, want);
                }
            }
        }
        // One that would be too much does not keep out one that fits.
        VerifiedCode x = typed(MOST - 3);
        TestKit.dueThrow("four at 237", STATE, () -> x.type(1, 4));
        TestKit.due("three at 237", x.type(0x0A0B0CL, 3), MOST);
        TestKit.due("the last byte", x.byteAt(MOST - 1), 12);
        TestKit.due("the first of the three", x.byteAt(MOST - 3), 10);
    }

    private static void poking() {
        TestKit.sentence("Byte k of the typed file becomes b.");
        int[] values = {0, 1, 127, 128, 254, 255};
        for (int size : SIZES) {
            int[] places = {0, 1, size / 2, size - 2, size - 1};
            for (int k : places) {
                for (int b : values) {
                    if (k >= 0 && k < size) {
                        VerifiedCode x = typed(size);
                        x.poke(k, b);
                        TestKit.dueBytes("poke(" + k + ", " + b + ") at " + size, x,
                            TestKit.with(bytesOf(size), k, b));
                    }
                }
            }
        }
        VerifiedCode x = ran();
        x.poke(0, 0);
        TestKit.due("a poke is for the typed file alone: run", x.run(0, 5, 0, 0), VerifiedCode.DONE);
        TestKit.due("a poke is for the typed file alone: read()", x.read(), 0);
        x.poke(0, 202);
        TestKit.due("a poke mends the typed file: read()", x.read(), VerifiedCode.NONE);
    }

    private static void pokingNoByte() {
        TestKit.sentence("IndexOutOfBoundsException: there is none; (poke)");
        for (int size : SIZES) {
            for (int k : notIndexes(size)) {
                if (k >= 0 && k < size) {
                    continue;
                }
                TestKit.dueThrowAlone("poke(" + k + ", 1) at " + size, INDEX, () -> typed(size), x -> x.poke(k, 1));
                TestKit.dueThrowAlone("poke(" + k + ", 256) at " + size, INDEX, () -> typed(size),
                    x -> x.poke(k, 256));
                TestKit.dueThrowAlone("poke(" + k + ", -1) at " + size, INDEX, () -> typed(size),
                    x -> x.poke(k, -1));
            }
        }
        TestKit.dueThrowAlone("poke(0, 1) after clear()", INDEX, TypedFileSentencesTest::cleared, x -> x.poke(0, 1));
    }

    private static VerifiedCode cleared() {
        VerifiedCode x = typed(MOST);
        x.clear();
        return x;
    }

    private static void pokingNoByteValue() {
        TestKit.sentence("IllegalArgumentException: b is not 0 .. 255.");
        for (int size : SIZES) {
            for (int b : NOT_A_BYTE) {
                if (size > 0) {
                    TestKit.dueThrowAlone("poke(0, " + b + ") at " + size, ARGUMENT, () -> typed(size),
                        x -> x.poke(0, b));
                    TestKit.dueThrowAlone("poke(last, " + b + ") at " + size, ARGUMENT, () -> typed(size),
                        x -> x.poke(size - 1, b));
                }
            }
        }
    }

    private static void sizes() {
        TestKit.sentence("How many bytes are typed.");
        VerifiedCode x = new VerifiedCode();
        TestKit.due("size() at first", x.size(), 0);
        for (int k = 1; k <= MOST; k++) {
            x.type(k, 1);
            TestKit.due("size() behind " + k, x.size(), k);
        }
        TestKit.dueThrow("one more", STATE, () -> x.type(1, 1));
        TestKit.due("size() behind one too many", x.size(), MOST);
        x.poke(MOST - 1, 0);
        TestKit.due("size() behind poke", x.size(), MOST);
        x.clear();
        TestKit.due("size() behind clear()", x.size(), 0);

        VerifiedCode y = ran();
        int length = program().length;
        TestKit.due("size() behind read() and run", y.size(), length);
        y.type(0, 8);
        TestKit.due("size() behind more", y.size(), length + 8);
        TestKit.due("read() of too much", y.read(), length);
        TestKit.due("size() behind a read() that fails", y.size(), length + 8);
        y.write();
        TestKit.due("size() behind write()", y.size(), length);
        y.clear();
        y.write();
        TestKit.due("size() behind write() from nothing", y.size(), length);
        y.check(0);
        TestKit.due("size() behind check", y.size(), length);
    }

    private static void bytes() {
        TestKit.sentence("Byte k of the typed file.");
        for (int size : SIZES) {
            TestKit.dueBytes("typed " + size, typed(size), bytesOf(size));
        }
        for (int b = 0; b <= 255; b++) {
            VerifiedCode x = new VerifiedCode();
            x.type(b, 1);
            TestKit.due("byteAt(0) of " + b, x.byteAt(0), b);
        }
    }

    private static void noBytes() {
        TestKit.sentence("IndexOutOfBoundsException: there is none. (byteAt)");
        for (int size : SIZES) {
            for (int k : notIndexes(size)) {
                if (k < 0 || k >= size) {
                    TestKit.dueThrowAlone("byteAt(" + k + ") at " + size, INDEX, () -> typed(size), x -> x.byteAt(k));
                }
            }
        }
        TestKit.dueThrowAlone("byteAt(0) after clear()", INDEX, TypedFileSentencesTest::cleared, x -> x.byteAt(0));
        TestKit.dueThrowAlone("byteAt(239) after clear()", INDEX, TypedFileSentencesTest::cleared,
            x -> x.byteAt(MOST - 1));
        // A shorter file in place of a longer one has only its own bytes.
        int length = program().length;
        VerifiedCode x = ran();
        x.type(1, 8);
        x.write();
        TestKit.due("the last byte of what was written", x.byteAt(length - 1), 0);
        TestKit.dueThrow("the byte behind what was written", INDEX, () -> x.byteAt(length));
    }

    private static void clearing() {
        TestKit.sentence("Nothing is typed.");
        for (int size : SIZES) {
            VerifiedCode x = typed(size);
            x.clear();
            TestKit.dueSame("clear() at " + size, x, new VerifiedCode());
            x.clear();
            TestKit.due("size() behind a second clear()", x.size(), 0);
            TestKit.due("read() behind clear()", x.read(), 0);
            TestKit.typeAll(x, bytesOf(MOST));
            TestKit.dueBytes("typed again", x, bytesOf(MOST));
        }
        VerifiedCode x = ran();
        x.clear();
        TestKit.due("methods() behind clear()", x.methods(), 1);
        TestKit.due("result() behind clear()", x.result(), 77);
        TestKit.due("steps() behind clear()", x.steps(), 2);
        TestKit.due("check(0) behind clear()", x.check(0), VerifiedCode.NONE);
        TestKit.due("run behind clear()", x.run(0, 78, 0, 0), VerifiedCode.DONE);
        TestKit.due("write() behind clear()", x.write(), program().length);
        TestKit.dueBytes("write() behind clear()", x, program());
    }
}
