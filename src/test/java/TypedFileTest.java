/** Promises 1 to 6: a new object, type, poke, size, byteAt, clear. */
public final class TypedFileTest {
    private TypedFileTest() {
    }

    public static void main(String[] args) {
        newObject();
        typing();
        typingTooMuch();
        wrongTyping();
        poking();
        lookingAtBytes();
        clearing();
        TestKit.end("TypedFileTest");
    }

    private static void newObject() {
        VerifiedCode x = new VerifiedCode();
        TestKit.due("new: size()", x.size(), 0);
        TestKit.due("new: methods()", x.methods(), 0);
        TestKit.due("new: result()", x.result(), 0);
        TestKit.due("new: steps()", x.steps(), 0);
        TestKit.due("new: read()", x.read(), 0);
        TestKit.dueThrow("new: byteAt(0)", IndexOutOfBoundsException.class, () -> x.byteAt(0));
        TestKit.dueThrow("new: poke(0, 0)", IndexOutOfBoundsException.class, () -> x.poke(0, 0));
        TestKit.dueThrow("new: write()", IllegalStateException.class, x::write);
        TestKit.dueThrow("new: check(0)", IllegalStateException.class, () -> x.check(0));
        TestKit.dueThrow("new: check(-1)", IllegalStateException.class, () -> x.check(-1));
        TestKit.dueThrow("new: run(0, 0, 0, 0)", IllegalStateException.class, () -> x.run(0, 0, 0, 0));
        TestKit.dueThrow("new: run(9, 0, 0, 0)", IllegalStateException.class, () -> x.run(9, 0, 0, 0));
    }

    private static void typing() {
        VerifiedCode x = new VerifiedCode();
        TestKit.due("type 8", x.type(0xFE010203040506F7L, 8), 8);
        int[] want = {0xFE, 1, 2, 3, 4, 5, 6, 0xF7};
        for (int k = 0; k < 8; k++) {
            TestKit.due("byteAt(" + k + ")", x.byteAt(k), want[k]);
        }
        TestKit.due("type the 3 lowest", x.type(0x1122334455667788L, 3), 11);
        TestKit.due("byteAt(8)", x.byteAt(8), 0x66);
        TestKit.due("byteAt(9)", x.byteAt(9), 0x77);
        TestKit.due("byteAt(10)", x.byteAt(10), 0x88);
        TestKit.due("type 1", x.type(-1L, 1), 12);
        TestKit.due("byteAt(11)", x.byteAt(11), 255);
        TestKit.due("size()", x.size(), 12);
    }

    private static void typingTooMuch() {
        VerifiedCode x = new VerifiedCode();
        for (int k = 0; k < 29; k++) {
            x.type(k, 8);
        }
        TestKit.due("type(1, 7) at 232", x.type(1, 7), 239);
        TestKit.dueThrow("type(5, 2) at 239", IllegalStateException.class, () -> x.type(5, 2));
        TestKit.dueThrow("type(5, 8) at 239", IllegalStateException.class, () -> x.type(5, 8));
        TestKit.due("size() after the throws", x.size(), 239);
        TestKit.due("type(77, 1) at 239", x.type(77, 1), 240);
        TestKit.due("byteAt(239)", x.byteAt(239), 77);
        TestKit.dueThrow("type(0, 1) at 240", IllegalStateException.class, () -> x.type(0, 1));
        TestKit.dueThrow("type(0, 9) at 240", IllegalArgumentException.class, () -> x.type(0, 9));
        TestKit.dueThrow("type(0, 0) at 240", IllegalArgumentException.class, () -> x.type(0, 0));
        TestKit.due("size() at the end", x.size(), 240);
    }

    private static void wrongTyping() {
        VerifiedCode x = new VerifiedCode();
        int[] wrong = {0, -1, 9, Integer.MIN_VALUE, Integer.MAX_VALUE};
        for (int n : wrong) {
            TestKit.dueThrow("type(1, " + n + ")", IllegalArgumentException.class, () -> x.type(1, n));
        }
        TestKit.due("size() after wrong typing", x.size(), 0);
    }

    private static void poking() {
        VerifiedCode x = new VerifiedCode();
        x.type(0x010203L, 3);
        x.poke(0, 255);
        x.poke(2, 0);
        TestKit.due("poked 0", x.byteAt(0), 255);
        TestKit.due("not poked 1", x.byteAt(1), 2);
        TestKit.due("poked 2", x.byteAt(2), 0);
        TestKit.dueThrow("poke(1, 256)", IllegalArgumentException.class, () -> x.poke(1, 256));
        TestKit.dueThrow("poke(1, -1)", IllegalArgumentException.class, () -> x.poke(1, -1));
        TestKit.dueThrow("poke(3, 1)", IndexOutOfBoundsException.class, () -> x.poke(3, 1));
        TestKit.dueThrow("poke(-1, 1)", IndexOutOfBoundsException.class, () -> x.poke(-1, 1));
        TestKit.dueThrow("poke(3, 256)", IndexOutOfBoundsException.class, () -> x.poke(3, 256));
        TestKit.due("1 is as before", x.byteAt(1), 2);
        TestKit.due("size() is as before", x.size(), 3);
    }

    private static void lookingAtBytes() {
        VerifiedCode x = new VerifiedCode();
        x.type(0x80L, 1);
        TestKit.due("byteAt(0)", x.byteAt(0), 128);
        int[] wrong = {-1, 1, 240, Integer.MIN_VALUE, Integer.MAX_VALUE};
        for (int k : wrong) {
            TestKit.dueThrow("byteAt(" + k + ")", IndexOutOfBoundsException.class, () -> x.byteAt(k));
        }
    }

    private static void clearing() {
        VerifiedCode x = TestKit.loaded("clear",
            TestKit.fileOf(TestKit.method(TestKit.row(), 0, 0, 0, TestKit.row(177))));
        x.clear();
        TestKit.due("size() after clear", x.size(), 0);
        TestKit.due("the program stays", x.methods(), 1);
        TestKit.due("it still runs", x.run(0, 0, 0, 0), VerifiedCode.DONE);
        TestKit.dueThrow("byteAt(0) after clear", IndexOutOfBoundsException.class, () -> x.byteAt(0));
        TestKit.due("type after clear", x.type(7, 1), 1);
        TestKit.due("byteAt(0) after typing", x.byteAt(0), 7);
    }
}
