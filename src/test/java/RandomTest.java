import java.util.Arrays;
import java.util.Random;

/**
 * Promises 7 to 13 on random programs, whole and damaged, against the Model; and the point of it all: a
 * program whose methods are all accepted is never stuck. The seed is fixed, so each run is the same.
 */
public final class RandomTest {
    private static final int PROGRAMS = 6000;
    private static final int DAMAGES = 12;
    private static final int RUNS = 3;
    private static final int[] NUMBERS = {0, 1, 2, 3, 4, 5, 7, 8, -1, -2, 100, Integer.MAX_VALUE, Integer.MIN_VALUE};

    private static final Random RANDOM = new Random(20261115L);
    private static final int[] ENDS = new int[7];
    private static int accepted;
    private static int refused;
    private static int unread;
    private static int readDamaged;

    private RandomTest() {
    }

    public static void main(String[] args) {
        for (int k = 0; k < PROGRAMS && TestKit.wrongSoFar() < 20; k++) {
            int[] file = new Maker(RANDOM).make();
            if (file == null) {
                continue;
            }
            TestKit.due("a whole program is accepted: " + Arrays.toString(file), compare(file) ? 1 : 0, 1);
            for (int j = 0; j < DAMAGES; j++) {
                compare(damaged(file));
            }
        }
        enough();
        TestKit.end("RandomTest");
    }

    private static int[] damaged(int[] file) {
        int[] copy = file.clone();
        int k = RANDOM.nextInt(copy.length);
        switch (RANDOM.nextInt(8)) {
            case 0:
                return Arrays.copyOf(copy, k);
            case 1:
                return copy.length < 240 ? TestKit.bytes(copy, RANDOM.nextInt(4)) : copy;
            case 2:
                copy[k] = RANDOM.nextInt(256);
                return copy;
            case 3:
                // Exchanged for a byte that is somewhere else in the file: often another instruction.
                copy[k] = copy[RANDOM.nextInt(copy.length)];
                return copy;
            default:
                copy[k] = Math.floorMod(copy[k] + RANDOM.nextInt(5) - 2, 256);
                return copy;
        }
    }

    /** Whether it was read and all its methods were accepted. */
    private static boolean compare(int[] file) {
        String what = Arrays.toString(file);
        VerifiedCode x = TestKit.typed(file);
        int answer = x.read();
        Model model;
        try {
            model = Model.of(file);
        } catch (Model.Failure f) {
            unread++;
            TestKit.due(what + ": read()", answer, f.number);
            TestKit.due(what + ": methods()", x.methods(), 0);
            return false;
        }
        readDamaged++;
        TestKit.due(what + ": read()", answer, VerifiedCode.NONE);
        if (answer != VerifiedCode.NONE) {
            return false;
        }
        TestKit.due(what + ": methods()", x.methods(), model.methodCount());
        compareWritten(what, x, file);
        return compareMethods(what, x, model);
    }

    private static void compareWritten(String what, VerifiedCode x, int[] file) {
        x.clear();
        TestKit.due(what + ": write()", x.write(), file.length);
        int same = 0;
        for (int k = 0; k < file.length; k++) {
            same += x.byteAt(k) == file[k] ? 1 : 0;
        }
        TestKit.due(what + ": bytes written", same, file.length);
    }

    private static boolean compareMethods(String what, VerifiedCode x, Model model) {
        boolean all = true;
        for (int m = 0; m < model.methodCount(); m++) {
            int want = model.check(m);
            TestKit.due(what + ": check(" + m + ")", x.check(m), want);
            all &= want == VerifiedCode.NONE;
            accepted += want == VerifiedCode.NONE ? 1 : 0;
            refused += want == VerifiedCode.NONE ? 0 : 1;
        }
        for (int m = 0; m < model.methodCount(); m++) {
            for (int k = 0; k < RUNS; k++) {
                int a = number();
                int b = number();
                int c = number();
                String call = what + ": run(" + m + ", " + a + ", " + b + ", " + c + ")";
                int end = x.run(m, a, b, c);
                TestKit.due(call, end, model.run(m, a, b, c));
                TestKit.due(call + " steps()", x.steps(), model.steps);
                TestKit.due(call + " result()", x.result(), model.result);
                ENDS[end]++;
                if (all) {
                    TestKit.due(call + " is stuck though accepted", end == VerifiedCode.STUCK ? 1 : 0, 0);
                }
            }
        }
        return all;
    }

    private static int number() {
        return RANDOM.nextInt(5) == 0 ? RANDOM.nextInt() : NUMBERS[RANDOM.nextInt(NUMBERS.length)];
    }

    /** The test says nothing about what it has not met. */
    private static void enough() {
        System.out.println("ends " + Arrays.toString(ENDS) + ", accepted " + accepted + ", refused " + refused
            + ", read " + readDamaged + ", not read " + unread);
        for (int end = 0; end < ENDS.length; end++) {
            TestKit.due("end " + end + " was met often", ENDS[end] > 100 ? 1 : 0, 1);
        }
        TestKit.due("accepted often", accepted > 1000 ? 1 : 0, 1);
        TestKit.due("refused often", refused > 1000 ? 1 : 0, 1);
        TestKit.due("not read often", unread > 1000 ? 1 : 0, 1);
    }
}
