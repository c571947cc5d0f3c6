import java.util.ArrayList;
import java.util.List;

/** What the tests share: answers that are due, typing of files, and writing of programs as bytes. */
final class TestKit {
    static final int FIRST_BYTE = 202;

    private static int wrong = 0;
    private static int looked = 0;
    private static int sentences = 0;
    private static int lookedBeforeSentence = 0;
    private static String sentence = "";

    private TestKit() {
    }

    interface Call {
        void make();
    }

    interface CallOn {
        void make(VerifiedCode x);
    }

    /** Makes new objects that are all alike. */
    interface Source {
        VerifiedCode make();
    }

    /** What is looked at from here on tests this sentence of the document. */
    static void sentence(String words) {
        endSentence();
        sentence = words;
        sentences++;
        lookedBeforeSentence = looked;
    }

    private static void endSentence() {
        if (sentences > 0 && looked == lookedBeforeSentence) {
            wrong++;
            System.out.println("[" + sentence + "] has no test");
        }
    }

    private static void tell(String text) {
        wrong++;
        System.out.println((sentences > 0 ? "[" + sentence + "] " : "") + text);
    }

    static void due(String what, long got, long want) {
        looked++;
        if (got != want) {
            tell(what + " answered " + got + ", due is " + want);
        }
    }

    static void due(String what, String got, String want) {
        looked++;
        if (!got.equals(want)) {
            tell(what + " answered " + got + ", due is " + want);
        }
    }

    /** The call must throw an exception of exactly this class. */
    static void dueThrow(String what, Class<?> want, Call call) {
        String got = "nothing thrown";
        try {
            call.make();
        } catch (RuntimeException e) {
            got = e.getClass().getSimpleName();
        }
        due(what, got, want.getSimpleName());
    }

    /** The call throws, and the object is then as one on which it was not made. */
    static void dueThrowAlone(String what, Class<?> want, Source source, CallOn call) {
        VerifiedCode x = source.make();
        dueThrow(what, want, () -> call.make(x));
        dueSame(what + ", then", x, source.make());
    }

    /** Two objects answer alike; the last that is asked of them puts the program's file in place of the typed one. */
    static void dueSame(String what, VerifiedCode got, VerifiedCode want) {
        due(what + " size()", got.size(), want.size());
        dueSameBytes(what, got, want);
        due(what + " result()", got.result(), want.result());
        due(what + " steps()", got.steps(), want.steps());
        due(what + " methods()", got.methods(), want.methods());
        for (int m = 0; m < Math.min(got.methods(), want.methods()); m++) {
            due(what + " check(" + m + ")", got.check(m), want.check(m));
        }
        if (got.methods() > 0 && want.methods() > 0) {
            due(what + " write()", got.write(), want.write());
            dueSameBytes(what + " write()", got, want);
        }
    }

    private static void dueSameBytes(String what, VerifiedCode got, VerifiedCode want) {
        int count = Math.min(got.size(), want.size());
        for (int k = 0; k < count; k++) {
            due(what + " byteAt(" + k + ")", got.byteAt(k), want.byteAt(k));
        }
    }

    static void dueBytes(String what, VerifiedCode got, int[] want) {
        int count = got.size();
        due(what + " size()", count, want.length);
        for (int k = 0; k < Math.min(count, want.length); k++) {
            due(what + " byteAt(" + k + ")", got.byteAt(k), want[k]);
        }
    }

    static void end(String name) {
        endSentence();
        System.out.println(name + ": " + (sentences > 0 ? sentences + " sentences, " : "")
            + looked + " answers looked at, " + wrong + " not as due");
        if (wrong != 0 || looked == 0) {
            System.exit(1);
        }
    }

    static int wrongSoFar() {
        return wrong;
    }

    /** A row of bytes from numbers and rows of numbers. */
    static int[] bytes(Object... parts) {
        List<Integer> all = new ArrayList<>();
        for (Object part : parts) {
            if (part instanceof int[] row) {
                for (int b : row) {
                    all.add(b);
                }
            } else {
                all.add((Integer) part);
            }
        }
        int[] row = new int[all.size()];
        for (int k = 0; k < row.length; k++) {
            row[k] = all.get(k);
        }
        return row;
    }

    static int[] row(int... numbers) {
        return numbers;
    }

    static int[] constants(int... numbers) {
        int[] row = new int[1 + 4 * numbers.length];
        row[0] = numbers.length;
        for (int k = 0; k < numbers.length; k++) {
            for (int j = 0; j < 4; j++) {
                row[1 + 4 * k + j] = (numbers[k] >> (24 - 8 * j)) & 255;
            }
        }
        return row;
    }

    /** A method without frames. */
    static int[] method(int[] parameters, int returns, int depth, int places, int[] code) {
        return method(parameters, returns, depth, places, code, new int[0][]);
    }

    static int[] method(int[] parameters, int returns, int depth, int places, int[] code, int[]... frames) {
        int[] head = bytes(parameters.length, parameters, returns, depth, places, code.length, code, frames.length);
        for (int[] frame : frames) {
            head = bytes(head, frame);
        }
        return head;
    }

    static int[] frame(int offset, int[] places, int... stack) {
        return bytes(offset, places, stack.length, stack);
    }

    static int[] file(int[] constants, int[]... methods) {
        int[] all = bytes(FIRST_BYTE, constants, methods.length);
        for (int[] method : methods) {
            all = bytes(all, method);
        }
        return all;
    }

    /** A file without constants and with a single method. */
    static int[] fileOf(int[] method) {
        return file(constants(), method);
    }

    /** Eight at a time: an object is good for 512 calls. */
    static void typeAll(VerifiedCode x, int[] file) {
        x.clear();
        for (int from = 0; from < file.length; from += 8) {
            int n = Math.min(8, file.length - from);
            long bytes = 0;
            for (int k = 0; k < n; k++) {
                bytes = bytes << 8 | file[from + k];
            }
            x.type(bytes, n);
        }
    }

    static VerifiedCode typed(int[] file) {
        VerifiedCode x = new VerifiedCode();
        typeAll(x, file);
        return x;
    }

    static int[] with(int[] file, int k, int b) {
        int[] copy = file.clone();
        copy[k] = b;
        return copy;
    }

    /** A new object in which the file was read, as it must be without a failure. */
    static VerifiedCode loaded(String what, int[] file) {
        VerifiedCode x = new VerifiedCode();
        typeAll(x, file);
        due(what + ": read()", x.read(), VerifiedCode.NONE);
        return x;
    }
}
