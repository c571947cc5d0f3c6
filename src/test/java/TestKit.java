import java.util.ArrayList;
import java.util.List;

/** What the tests share: answers that are due, typing of files, and writing of programs as bytes. */
final class TestKit {
    static final int FIRST_BYTE = 202;

    private static int wrong = 0;
    private static int looked = 0;

    private TestKit() {
    }

    interface Call {
        void make();
    }

    static void due(String what, long got, long want) {
        looked++;
        if (got != want) {
            wrong++;
            System.out.println(what + " answered " + got + ", due is " + want);
        }
    }

    static void due(String what, String got, String want) {
        looked++;
        if (!got.equals(want)) {
            wrong++;
            System.out.println(what + " answered " + got + ", due is " + want);
        }
    }

    /** The call must throw an exception of exactly this class. */
    static void dueThrow(String what, Class<?> want, Call call) {
        String got = "nothing thrown";
        try {
            call.make();
        } catch (RuntimeException e) {
            got = e.getClass().getSimpleName();
        }
        due(what, got, want.getSimpleName());
    }

    static void end(String name) {
        System.out.println(name + ": " + looked + " answers looked at, " + wrong + " not as due");
        if (wrong != 0 || looked == 0) {
            System.exit(1);
        }
    }

    static int wrongSoFar() {
        return wrong;
    }

    /** A row of bytes from numbers and rows of numbers. */
    static int[] bytes(Object... parts) {
        List<Integer> all = new ArrayList<>();
        for (Object part : parts) {
            if (part instanceof int[] row) {
                for (int b : row) {
                    all.add(b);
                }
            } else {
                all.add((Integer) part);
            }
        }
        int[] row = new int[all.size()];
        for (int k = 0; k < row.length; k++) {
            row[k] = all.get(k);
        }
        return row;
    }

    static int[] row(int... numbers) {
        return numbers;
    }

    static int[] constants(int... numbers) {
        int[] row = new int[1 + 4 * numbers.length];
        row[0] = numbers.length;
        for (int k = 0; k < numbers.length; k++) {
            for (int j = 0; j < 4; j++) {
                row[1 + 4 * k + j] = (numbers[k] >> (24 - 8 * j)) & 255;
            }
        }
        return row;
    }

    /** A method without frames. */
    static int[] method(int[] parameters, int returns, int depth, int places, int[] code) {
        return method(parameters, returns, depth, places, code, new int[0][]);
    }

    static int[] method(int[] parameters, int returns, int depth, int places, int[] code, int[]... frames) {
        int[] head = bytes(parameters.length, parameters, returns, depth, places, code.length, code, frames.length);
        for (int[] frame : frames) {
            head = bytes(head, frame);
        }
        return head;
    }

    static int[] frame(int offset, int[] places, int... stack) {
        return bytes(offset, places, stack.length, stack);
    }

    static int[] file(int[] constants, int[]... methods) {
        int[] all = bytes(FIRST_BYTE, constants, methods.length);
        for (int[] method : methods) {
            all = bytes(all, method);
        }
        return all;
    }

    /** A file without constants and with a single method. */
    static int[] fileOf(int[] method) {
        return file(constants(), method);
    }

    static void typeAll(VerifiedCode x, int[] file) {
        x.clear();
        for (int b : file) {
            x.type(b, 1);
        }
    }

    /** A new object in which the file was read, as it must be without a failure. */
    static VerifiedCode loaded(String what, int[] file) {
        VerifiedCode x = new VerifiedCode();
        typeAll(x, file);
        due(what + ": read()", x.read(), VerifiedCode.NONE);
        return x;
    }
}
