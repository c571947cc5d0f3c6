/**
 * Small programs for a stack machine, as files of bytes: read, written again, checked by the types
 * that their frames declare, and run by a machine that looks at the kind of every value.
 */
public final class VerifiedCode {
    public static final int NONE = -1;
    public static final int DONE = 0;
    public static final int STUCK = 1;
    public static final int DIVISION = 2;
    public static final int INDEX = 3;
    public static final int NULL = 4;
    public static final int SIZE = 5;
    public static final int TIRED = 6;

    private static final int FIRST_BYTE = 202;
    private static final int MOST_TYPED = 240;
    private static final int MOST_TYPED_AT_ONCE = 8;
    private static final int MOST_CONSTANTS = 4;
    private static final int BYTES_OF_A_CONSTANT = 4;
    private static final int MOST_METHODS = 4;
    private static final int MOST_PARAMETERS = 3;
    private static final int MOST_DEPTH = 6;
    private static final int MOST_PLACES = 6;
    private static final int MOST_CODE = 60;
    private static final int MOST_FRAMES = 8;
    private static final int MOST_UNDER_WAY = 4;
    private static final int MOST_STEPS = 200;
    private static final int MOST_ROWS = 8;
    private static final int MOST_ELEMENTS = 8;

    private static final int TYPE_NOTHING = 0;
    private static final int TYPE_INT = 1;
    private static final int TYPE_ROW = 2;
    private static final int TYPE_NULL = 3;

    private final int[] typed;
    private int typedCount;
    private Program program;
    private Program spare;
    private final Reader reader;
    private final Checker checker;
    private final Machine machine;

    public VerifiedCode() {
        typed = new int[MOST_TYPED];
        program = new Program();
        spare = new Program();
        reader = new Reader();
        checker = new Checker();
        machine = new Machine();
    }

    public int type(long bytes, int n) throws IllegalArgumentException, IllegalStateException {
        if (n < 1 || n > MOST_TYPED_AT_ONCE) {
            throw new IllegalArgumentException("n is not 1 .. 8");
        }
        if (typedCount + n > MOST_TYPED) {
            throw new IllegalStateException("the file would have more than 240 bytes");
        }
        for (int k = n - 1; k >= 0; k--) {
            typed[typedCount] = (int) (bytes >> (8 * k)) & 255;
            typedCount++;
        }
        return typedCount;
    }

    public void poke(int k, int b) throws IndexOutOfBoundsException, IllegalArgumentException {
        if (k < 0 || k >= typedCount) {
            throw new IndexOutOfBoundsException("there is no such byte");
        }
        if (b < 0 || b > 255) {
            throw new IllegalArgumentException("b is not 0 .. 255");
        }
        typed[k] = b;
    }

    public int size() {
        return typedCount;
    }

    public int byteAt(int k) throws IndexOutOfBoundsException {
        if (k < 0 || k >= typedCount) {
            throw new IndexOutOfBoundsException("there is no such byte");
        }
        return typed[k];
    }

    public void clear() {
        typedCount = 0;
    }

    public int read() {
        // Read into the spare one, so that a failure leaves the program as it was.
        spare.takeFile(typed, typedCount);
        if (!reader.readsFile(spare)) {
            return reader.at;
        }
        Program former = program;
        program = spare;
        spare = former;
        return NONE;
    }

    public int write() throws IllegalStateException {
        if (program.methodCount == 0) {
            throw new IllegalStateException("there is no program");
        }
        // The grammar leaves no choice: the file of a program is the one that it was read from.
        System.arraycopy(program.file, 0, typed, 0, program.fileSize);
        typedCount = program.fileSize;
        return typedCount;
    }

    public int methods() {
        return program.methodCount;
    }

    public int check(int method) throws IllegalStateException, IllegalArgumentException {
        if (program.methodCount == 0) {
            throw new IllegalStateException("there is no program");
        }
        if (method < 0 || method >= program.methodCount) {
            throw new IllegalArgumentException("there is no such method");
        }
        return checker.firstRefused(program, program.parts[method]);
    }

    public int run(int method, int a, int b, int c) throws IllegalStateException, IllegalArgumentException {
        if (program.methodCount == 0) {
            throw new IllegalStateException("there is no program");
        }
        if (method < 0 || method >= program.methodCount) {
            throw new IllegalArgumentException("there is no such method");
        }
        machine.begin(program, method, a, b, c);
        return machine.goToEnd(program);
    }

    public int result() {
        return machine.lastResult;
    }

    public int steps() {
        return machine.stepsDone;
    }

    /** Whether a value of one type may be where another is declared, or taken; NOTHING stands for any. */
    private static boolean isGoodFor(int type, int declared) {
        return declared == TYPE_NOTHING
            || type == declared
            || (type == TYPE_NULL && declared == TYPE_ROW);
    }

    /** The instructions by their first bytes, and what can be told of one from that byte alone. */
    private static final class Instruction {
        static final int PUSH_NULL = 1;
        static final int PUSH_BYTE = 16;
        static final int PUSH_CONSTANT = 18;
        static final int LOAD_INT = 21;
        static final int LOAD_ROW = 25;
        static final int LOAD_ELEMENT = 46;
        static final int STORE_INT = 54;
        static final int STORE_ROW = 58;
        static final int STORE_ELEMENT = 79;
        static final int DROP = 87;
        static final int DOUBLE = 89;
        static final int EXCHANGE = 95;
        static final int ADD = 96;
        static final int SUBTRACT = 100;
        static final int MULTIPLY = 104;
        static final int DIVIDE = 108;
        static final int NEGATE = 116;
        static final int GROW = 132;
        static final int IF_ZERO = 153;
        static final int IF_NOT_POSITIVE = 158;
        static final int IF_EQUAL = 159;
        static final int IF_NOT_GREATER = 164;
        static final int GO = 167;
        static final int RETURN_INT = 172;
        static final int RETURN_ROW = 176;
        static final int RETURN_NOTHING = 177;
        static final int CALL = 184;
        static final int NEW_ROW = 188;
        static final int COUNT_ELEMENTS = 190;
        static final int IF_NULL = 198;
        static final int IF_NOT_NULL = 199;

        private Instruction() {
        }

        static boolean hasTarget(int code) {
            return (code >= IF_ZERO && code <= IF_NOT_GREATER)
                || code == IF_NULL || code == IF_NOT_NULL || code == GO;
        }

        static boolean hasPlace(int code) {
            return code == LOAD_INT || code == LOAD_ROW || code == STORE_INT || code == STORE_ROW || code == GROW;
        }

        static boolean isReturn(int code) {
            return code == RETURN_INT || code == RETURN_ROW || code == RETURN_NOTHING;
        }

        /** How many bytes it has with its operands; 0 if the byte begins no instruction. */
        static int length(int code) {
            if (hasTarget(code)) {
                return 3;
            }
            switch (code) {
                case GROW:
                    return 3;
                case PUSH_BYTE: case PUSH_CONSTANT: case LOAD_INT: case LOAD_ROW:
                case STORE_INT: case STORE_ROW: case CALL:
                    return 2;
                case PUSH_NULL: case LOAD_ELEMENT: case STORE_ELEMENT: case DROP: case DOUBLE: case EXCHANGE:
                case ADD: case SUBTRACT: case MULTIPLY: case DIVIDE: case NEGATE:
                case RETURN_INT: case RETURN_ROW: case RETURN_NOTHING: case NEW_ROW: case COUNT_ELEMENTS:
                    return 1;
                default:
                    return 0;
            }
        }

        /** How many values it takes; a call's are its method's. */
        static int takes(int code) {
            if (code >= IF_ZERO && code <= IF_NOT_POSITIVE) {
                return 1;
            }
            if (code >= IF_EQUAL && code <= IF_NOT_GREATER) {
                return 2;
            }
            switch (code) {
                case STORE_ELEMENT:
                    return 3;
                case LOAD_ELEMENT: case EXCHANGE: case ADD: case SUBTRACT: case MULTIPLY: case DIVIDE:
                    return 2;
                case STORE_INT: case STORE_ROW: case DROP: case DOUBLE: case NEGATE: case RETURN_INT:
                case RETURN_ROW: case NEW_ROW: case COUNT_ELEMENTS: case IF_NULL: case IF_NOT_NULL:
                    return 1;
                default:
                    return 0;
            }
        }

        /** The type of the value k that it takes, 0 being the lowest; NOTHING if any will do. */
        static int typeTaken(int code, int k) {
            switch (code) {
                case DROP: case DOUBLE: case EXCHANGE:
                    return TYPE_NOTHING;
                case STORE_ROW: case RETURN_ROW: case COUNT_ELEMENTS: case IF_NULL: case IF_NOT_NULL:
                    return TYPE_ROW;
                case LOAD_ELEMENT: case STORE_ELEMENT:
                    return k == 0 ? TYPE_ROW : TYPE_INT;
                default:
                    return TYPE_INT;
            }
        }

        /** How many values it puts; a call's are its method's. */
        static int puts(int code) {
            switch (code) {
                case DOUBLE: case EXCHANGE:
                    return 2;
                case PUSH_NULL: case PUSH_BYTE: case PUSH_CONSTANT: case LOAD_INT: case LOAD_ROW: case LOAD_ELEMENT:
                case ADD: case SUBTRACT: case MULTIPLY: case DIVIDE: case NEGATE: case NEW_ROW: case COUNT_ELEMENTS:
                    return 1;
                default:
                    return 0;
            }
        }

        /** The type that a place must have for it; NOTHING if any will do. */
        static int typeOfPlace(int code) {
            if (code == LOAD_INT || code == GROW) {
                return TYPE_INT;
            }
            return code == LOAD_ROW ? TYPE_ROW : TYPE_NOTHING;
        }

        /** What the method of a return must return. */
        static int typeOfReturn(int code) {
            if (code == RETURN_INT) {
                return TYPE_INT;
            }
            return code == RETURN_ROW ? TYPE_ROW : TYPE_NOTHING;
        }
    }

    /** The numbers of a method, and where in the file of its program the rest of it lies. */
    private static final class Method {
        int parameterCount;
        int parametersAt;
        int returns;
        int depth;
        int places;
        int codeAt;
        int codeLength;
        int frameCount;
        final int[] framesAt;

        Method() {
            framesAt = new int[MOST_FRAMES];
        }
    }

    /** A program as its file, with the parts that reading has found there; without methods it is none. */
    private static final class Program {
        final int[] file;
        int fileSize;
        int constantCount;
        int constantsAt;
        int methodCount;
        final Method[] parts;

        Program() {
            file = new int[MOST_TYPED];
            parts = new Method[MOST_METHODS];
            for (int k = 0; k < MOST_METHODS; k++) {
                parts[k] = new Method();
            }
        }

        void takeFile(int[] bytes, int count) {
            System.arraycopy(bytes, 0, file, 0, count);
            fileSize = count;
        }

        int constant(int k) {
            int from = constantsAt + BYTES_OF_A_CONSTANT * k;
            return (file[from] << 24) | (file[from + 1] << 16) | (file[from + 2] << 8) | file[from + 3];
        }

        int parameterType(Method m, int k) {
            return file[m.parametersAt + k];
        }

        int code(Method m, int offset) {
            return file[m.codeAt + offset];
        }

        /** The first operand of the instruction at an offset: a place, a constant, a method or a byte. */
        int operand(Method m, int offset) {
            return file[m.codeAt + offset + 1];
        }

        int signedByte(Method m, int offset) {
            int b = code(m, offset);
            return b >= 128 ? b - 256 : b;
        }

        int target(Method m, int offset) {
            int t = code(m, offset + 1) * 256 + code(m, offset + 2);
            return offset + (t >= 32768 ? t - 65536 : t);
        }

        Method called(Method m, int offset) {
            return parts[file[m.codeAt + offset + 1]];
        }

        int frameOffset(Method m, int frame) {
            return file[m.framesAt[frame]];
        }

        int framePlace(Method m, int frame, int place) {
            return file[m.framesAt[frame] + 1 + place];
        }

        int frameHeight(Method m, int frame) {
            return file[m.framesAt[frame] + 1 + m.places];
        }

        int frameValue(Method m, int frame, int k) {
            return file[m.framesAt[frame] + 2 + m.places + k];
        }

        /** The frame at an offset, or NONE. */
        int frameAt(Method m, int offset) {
            for (int k = 0; k < m.frameCount; k++) {
                if (frameOffset(m, k) == offset) {
                    return k;
                }
            }
            return NONE;
        }

        int takenCount(Method m, int offset) {
            int code = code(m, offset);
            return code == Instruction.CALL
                ? called(m, offset).parameterCount
                : Instruction.takes(code);
        }

        int takenType(Method m, int offset, int k) {
            int code = code(m, offset);
            return code == Instruction.CALL
                ? parameterType(called(m, offset), k)
                : Instruction.typeTaken(code, k);
        }

        int putCount(Method m, int offset) {
            int code = code(m, offset);
            if (code == Instruction.CALL) {
                return called(m, offset).returns == TYPE_NOTHING ? 0 : 1;
            }
            return Instruction.puts(code);
        }
    }

    /**
     * Reads the file of a program from byte to byte. Each step says whether all was well up to its end;
     * if not, at is the byte that fails.
     */
    private static final class Reader {
        int at;
        private int latest;
        private final boolean[] begins;

        Reader() {
            begins = new boolean[MOST_CODE];
        }

        boolean readsFile(Program p) {
            at = 0;
            if (!next(p, FIRST_BYTE, FIRST_BYTE) || !readsConstants(p) || !next(p, 1, MOST_METHODS)) {
                return false;
            }
            p.methodCount = latest;
            for (int k = 0; k < p.methodCount; k++) {
                if (!readsMethod(p, p.parts[k])) {
                    return false;
                }
            }
            return at == p.fileSize;
        }

        private boolean next(Program p, int lowest, int highest) {
            if (at >= p.fileSize || p.file[at] < lowest || p.file[at] > highest) {
                return false;
            }
            latest = p.file[at];
            at++;
            return true;
        }

        private boolean nextOnes(Program p, int count, int lowest, int highest) {
            for (int k = 0; k < count; k++) {
                if (!next(p, lowest, highest)) {
                    return false;
                }
            }
            return true;
        }

        private boolean readsConstants(Program p) {
            if (!next(p, 0, MOST_CONSTANTS)) {
                return false;
            }
            p.constantCount = latest;
            p.constantsAt = at;
            return nextOnes(p, BYTES_OF_A_CONSTANT * p.constantCount, 0, 255);
        }

        private boolean readsMethod(Program p, Method m) {
            return readsHead(p, m) && readsCode(p, m) && readsFrames(p, m)
                && targetsBegin(p, m) && framesBegin(p, m);
        }

        private boolean readsHead(Program p, Method m) {
            if (!next(p, 0, MOST_PARAMETERS)) {
                return false;
            }
            m.parameterCount = latest;
            m.parametersAt = at;
            if (!nextOnes(p, m.parameterCount, TYPE_INT, TYPE_ROW) || !next(p, TYPE_NOTHING, TYPE_ROW)) {
                return false;
            }
            m.returns = latest;
            if (!next(p, 0, MOST_DEPTH)) {
                return false;
            }
            m.depth = latest;
            if (!next(p, m.parameterCount, MOST_PLACES)) {
                return false;
            }
            m.places = latest;
            if (!next(p, 1, MOST_CODE)) {
                return false;
            }
            m.codeLength = latest;
            m.codeAt = at;
            return true;
        }

        private boolean readsCode(Program p, Method m) {
            for (int k = 0; k < MOST_CODE; k++) {
                begins[k] = false;
            }
            int end = m.codeAt + m.codeLength;
            for (int k = 0; k < MOST_CODE && at < end; k++) {
                begins[at - m.codeAt] = true;
                if (!readsInstruction(p, m, end)) {
                    return false;
                }
            }
            return true;
        }

        private boolean readsInstruction(Program p, Method m, int end) {
            if (at >= p.fileSize || Instruction.length(p.file[at]) == 0) {
                return false;
            }
            int code = p.file[at];
            at++;
            for (int k = 1; k < Instruction.length(code); k++) {
                // The byte behind the code is where an instruction fails that is not whole.
                if (at >= end || !next(p, 0, highestOperand(p, m, code, k))) {
                    return false;
                }
            }
            return true;
        }

        private int highestOperand(Program p, Method m, int code, int k) {
            if (k == 1 && Instruction.hasPlace(code)) {
                return m.places - 1;
            }
            if (code == Instruction.PUSH_CONSTANT) {
                return p.constantCount - 1;
            }
            return code == Instruction.CALL ? p.methodCount - 1 : 255;
        }

        private boolean readsFrames(Program p, Method m) {
            if (!next(p, 0, MOST_FRAMES)) {
                return false;
            }
            m.frameCount = latest;
            int lowest = 0;
            for (int k = 0; k < m.frameCount; k++) {
                m.framesAt[k] = at;
                if (!next(p, lowest, m.codeLength - 1)) {
                    return false;
                }
                lowest = latest + 1;
                if (!nextOnes(p, m.places, TYPE_NOTHING, TYPE_NULL)
                    || !next(p, 0, m.depth)
                    || !nextOnes(p, latest, TYPE_INT, TYPE_NULL)) {
                    return false;
                }
            }
            return true;
        }

        private boolean targetsBegin(Program p, Method m) {
            for (int k = 0; k < m.codeLength; k++) {
                if (begins[k] && Instruction.hasTarget(p.code(m, k)) && !beginsAt(m, p.target(m, k))) {
                    return false;
                }
            }
            return true;
        }

        private boolean framesBegin(Program p, Method m) {
            for (int k = 0; k < m.frameCount; k++) {
                if (!beginsAt(m, p.frameOffset(m, k))) {
                    return false;
                }
            }
            return true;
        }

        private boolean beginsAt(Method m, int offset) {
            return offset >= 0 && offset < m.codeLength && begins[offset];
        }
    }

    /** The kinds, and in runs the values, of a method's places and of its stack. */
    private static final class State {
        final int[] placeKinds;
        final int[] placeValues;
        final int[] kinds;
        final int[] values;
        int height;

        State() {
            placeKinds = new int[MOST_PLACES];
            placeValues = new int[MOST_PLACES];
            kinds = new int[MOST_DEPTH];
            values = new int[MOST_DEPTH];
        }

        void makeEmpty() {
            for (int k = 0; k < MOST_PLACES; k++) {
                setPlace(k, TYPE_NOTHING, 0);
            }
            height = 0;
        }

        void setPlace(int place, int kind, int value) {
            placeKinds[place] = kind;
            placeValues[place] = value;
        }

        void put(int kind, int value) {
            kinds[height] = kind;
            values[height] = value;
            height++;
        }

        /** Takes the highest value; its kind stays to be looked at until the next one is put. */
        int take() {
            height--;
            return values[height];
        }

        int kindTaken() {
            return kinds[height];
        }

        int kindBelow(int k) {
            return kinds[height - 1 - k];
        }

        int valueBelow(int k) {
            return values[height - 1 - k];
        }

        void putAgain() {
            put(kindBelow(0), valueBelow(0));
        }

        void exchange() {
            int higher = take();
            int kindOfHigher = kindTaken();
            int lower = take();
            int kindOfLower = kindTaken();
            put(kindOfHigher, higher);
            put(kindOfLower, lower);
        }

        void moveToPlace(int place) {
            int value = take();
            setPlace(place, kindTaken(), value);
        }

        void putPlace(int place) {
            put(placeKinds[place], placeValues[place]);
        }

        /**
         * Whether the instruction at an offset finds what it needs. What checking asks of the types
         * is what a run that is not stuck asks of the kinds, so both ask here.
         */
        boolean allows(Program p, Method m, int offset) {
            int code = p.code(m, offset);
            int taken = p.takenCount(m, offset);
            return height >= taken
                && hasTaken(p, m, offset, taken)
                && hasPlace(p, m, offset)
                && (!Instruction.isReturn(code) || m.returns == Instruction.typeOfReturn(code))
                && height - taken + p.putCount(m, offset) <= m.depth;
        }

        private boolean hasTaken(Program p, Method m, int offset, int taken) {
            for (int k = 0; k < taken; k++) {
                if (!isGoodFor(kinds[height - taken + k], p.takenType(m, offset, k))) {
                    return false;
                }
            }
            return true;
        }

        private boolean hasPlace(Program p, Method m, int offset) {
            int code = p.code(m, offset);
            return !Instruction.hasPlace(code)
                || isGoodFor(placeKinds[p.operand(m, offset)], Instruction.typeOfPlace(code));
        }
    }

    /** Checks a method by its frames, on a state of which only the kinds count. */
    private static final class Checker {
        private final State state;
        private boolean hasState;

        Checker() {
            state = new State();
        }

        /** The offset at which the method is refused, or NONE. */
        int firstRefused(Program p, Method m) {
            state.makeEmpty();
            for (int k = 0; k < m.parameterCount; k++) {
                state.setPlace(k, p.parameterType(m, k), 0);
            }
            hasState = true;
            int code = 0;
            for (int offset = 0; offset < m.codeLength; offset += Math.max(1, Instruction.length(code))) {
                code = p.code(m, offset);
                if (!entersFrame(p, m, offset) || !hasState || !state.allows(p, m, offset)) {
                    return offset;
                }
                change(p, m, offset);
                if (!mayGoToTarget(p, m, offset)) {
                    return offset;
                }
                hasState = code != Instruction.GO && !Instruction.isReturn(code);
            }
            return hasState ? m.codeLength : NONE;
        }

        private boolean entersFrame(Program p, Method m, int offset) {
            int frame = p.frameAt(m, offset);
            if (frame == NONE) {
                return true;
            }
            if (hasState && !isGoodForFrame(p, m, frame)) {
                return false;
            }
            for (int k = 0; k < m.places; k++) {
                state.setPlace(k, p.framePlace(m, frame, k), 0);
            }
            state.height = 0;
            for (int k = 0; k < p.frameHeight(m, frame); k++) {
                state.put(p.frameValue(m, frame, k), 0);
            }
            hasState = true;
            return true;
        }

        private boolean isGoodForFrame(Program p, Method m, int frame) {
            if (state.height != p.frameHeight(m, frame)) {
                return false;
            }
            for (int k = 0; k < m.places; k++) {
                if (!isGoodFor(state.placeKinds[k], p.framePlace(m, frame, k))) {
                    return false;
                }
            }
            for (int k = 0; k < state.height; k++) {
                if (!isGoodFor(state.kinds[k], p.frameValue(m, frame, k))) {
                    return false;
                }
            }
            return true;
        }

        private boolean mayGoToTarget(Program p, Method m, int offset) {
            if (!Instruction.hasTarget(p.code(m, offset))) {
                return true;
            }
            int frame = p.frameAt(m, p.target(m, offset));
            return frame != NONE && isGoodForFrame(p, m, frame);
        }

        private void change(Program p, Method m, int offset) {
            int code = p.code(m, offset);
            switch (code) {
                case Instruction.LOAD_ROW:
                    state.putPlace(p.operand(m, offset));
                    break;
                case Instruction.STORE_INT: case Instruction.STORE_ROW:
                    state.moveToPlace(p.operand(m, offset));
                    break;
                case Instruction.DOUBLE:
                    state.putAgain();
                    break;
                case Instruction.EXCHANGE:
                    state.exchange();
                    break;
                default:
                    state.height -= p.takenCount(m, offset);
                    if (p.putCount(m, offset) == 1) {
                        state.put(typePut(p, m, offset), 0);
                    }
                    break;
            }
        }

        private int typePut(Program p, Method m, int offset) {
            switch (p.code(m, offset)) {
                case Instruction.PUSH_NULL:
                    return TYPE_NULL;
                case Instruction.NEW_ROW:
                    return TYPE_ROW;
                case Instruction.CALL:
                    return p.called(m, offset).returns;
                default:
                    return TYPE_INT;
            }
        }
    }

    /** Runs methods. The value of a ROW is the number of the row, so that all who have it share it. */
    private static final class Machine {
        private static final int GOES_ON = -1;

        int lastResult;
        int stepsDone;
        private final State[] states;
        private final int[] running;
        private final int[] offsets;
        private int top;
        private final int[] elements;
        private final int[] lengths;
        private int rowCount;

        Machine() {
            states = new State[MOST_UNDER_WAY];
            for (int k = 0; k < MOST_UNDER_WAY; k++) {
                states[k] = new State();
            }
            running = new int[MOST_UNDER_WAY];
            offsets = new int[MOST_UNDER_WAY];
            elements = new int[MOST_ROWS * MOST_ELEMENTS];
            lengths = new int[MOST_ROWS];
        }

        void begin(Program p, int method, int a, int b, int c) {
            stepsDone = 0;
            rowCount = 0;
            top = 0;
            enter(method);
            int count = p.parts[method].parameterCount;
            if (count > 0) {
                setArgument(p, 0, a);
            }
            if (count > 1) {
                setArgument(p, 1, b);
            }
            if (count > 2) {
                setArgument(p, 2, c);
            }
        }

        private void enter(int method) {
            running[top] = method;
            offsets[top] = 0;
            states[top].makeEmpty();
        }

        private void setArgument(Program p, int k, int number) {
            if (p.parameterType(p.parts[running[0]], k) == TYPE_INT) {
                states[0].setPlace(k, TYPE_INT, number);
            } else if (number < 0) {
                states[0].setPlace(k, TYPE_NULL, 0);
            } else {
                int row = newRow(number & 7);
                for (int j = 0; j < lengths[row]; j++) {
                    elements[row * MOST_ELEMENTS + j] = number + j;
                }
                states[0].setPlace(k, TYPE_ROW, row);
            }
        }

        private int newRow(int length) {
            int row = rowCount;
            rowCount++;
            lengths[row] = length;
            for (int k = 0; k < length; k++) {
                elements[row * MOST_ELEMENTS + k] = 0;
            }
            return row;
        }

        /** Runs on from where begin has left it; how it ended. */
        int goToEnd(Program p) {
            int end = GOES_ON;
            for (int k = 0; k < MOST_STEPS && end == GOES_ON; k++) {
                end = doOne(p);
                if (end == GOES_ON || end == DONE) {
                    stepsDone++;
                }
            }
            return end == GOES_ON ? TIRED : end;
        }

        private int doOne(Program p) {
            State s = states[top];
            Method m = p.parts[running[top]];
            int offset = offsets[top];
            if (offset >= m.codeLength || !s.allows(p, m, offset)) {
                return STUCK;
            }
            int code = p.code(m, offset);
            int trouble = trouble(s, code);
            if (trouble != GOES_ON) {
                return trouble;
            }
            if (Instruction.isReturn(code)) {
                return leave(s, code);
            }
            offsets[top] = offset + Instruction.length(code);
            if (code == Instruction.CALL) {
                call(p, p.operand(m, offset));
            } else if (Instruction.hasTarget(code)) {
                if (goesToTarget(s, code)) {
                    offsets[top] = p.target(m, offset);
                }
            } else if (Instruction.length(code) > 1) {
                doWithOperand(s, p, m, offset);
            } else {
                doAlone(s, code);
            }
            return GOES_ON;
        }

        /** How the run ends in this instruction, which is not stuck; or GOES_ON. */
        private int trouble(State s, int code) {
            switch (code) {
                case Instruction.DIVIDE:
                    return s.valueBelow(0) == 0 ? DIVISION : GOES_ON;
                case Instruction.NEW_ROW:
                    return s.valueBelow(0) < 0 || s.valueBelow(0) > MOST_ELEMENTS || rowCount >= MOST_ROWS
                        ? SIZE : GOES_ON;
                case Instruction.COUNT_ELEMENTS:
                    return s.kindBelow(0) == TYPE_NULL ? NULL : GOES_ON;
                case Instruction.LOAD_ELEMENT:
                    return troubleOfElement(s, 1);
                case Instruction.STORE_ELEMENT:
                    return troubleOfElement(s, 2);
                case Instruction.CALL:
                    return top + 1 >= MOST_UNDER_WAY ? TIRED : GOES_ON;
                default:
                    return GOES_ON;
            }
        }

        /** The row lies so many values below the highest, its index on it. */
        private int troubleOfElement(State s, int below) {
            if (s.kindBelow(below) == TYPE_NULL) {
                return NULL;
            }
            int index = s.valueBelow(below - 1);
            return index < 0 || index >= lengths[s.valueBelow(below)] ? INDEX : GOES_ON;
        }

        private void call(Program p, int method) {
            State caller = states[top];
            top++;
            enter(method);
            for (int k = p.parts[method].parameterCount - 1; k >= 0; k--) {
                int value = caller.take();
                states[top].setPlace(k, caller.kindTaken(), value);
            }
        }

        private int leave(State s, int code) {
            boolean hasValue = code != Instruction.RETURN_NOTHING;
            int value = hasValue ? s.take() : 0;
            int kind = hasValue ? s.kindTaken() : TYPE_NOTHING;
            if (top == 0) {
                lastResult = resultOf(kind, value);
                return DONE;
            }
            top--;
            if (hasValue) {
                states[top].put(kind, value);
            }
            return GOES_ON;
        }

        private int resultOf(int kind, int value) {
            switch (kind) {
                case TYPE_INT:
                    return value;
                case TYPE_ROW:
                    return lengths[value];
                case TYPE_NULL:
                    return NONE;
                default:
                    return 0;
            }
        }

        private boolean goesToTarget(State s, int code) {
            if (code == Instruction.GO) {
                return true;
            }
            int higher = s.take();
            if (code == Instruction.IF_NULL || code == Instruction.IF_NOT_NULL) {
                return (s.kindTaken() == TYPE_NULL) == (code == Instruction.IF_NULL);
            }
            if (code <= Instruction.IF_NOT_POSITIVE) {
                return holds(code - Instruction.IF_ZERO, higher, 0);
            }
            return holds(code - Instruction.IF_EQUAL, s.take(), higher);
        }

        /** The six comparisons in the order in which the instructions have them. */
        private boolean holds(int comparison, int lower, int higher) {
            switch (comparison) {
                case 0:
                    return lower == higher;
                case 1:
                    return lower != higher;
                case 2:
                    return lower < higher;
                case 3:
                    return lower >= higher;
                case 4:
                    return lower > higher;
                default:
                    return lower <= higher;
            }
        }

        private void doWithOperand(State s, Program p, Method m, int offset) {
            int operand = p.operand(m, offset);
            switch (p.code(m, offset)) {
                case Instruction.PUSH_BYTE:
                    s.put(TYPE_INT, p.signedByte(m, offset + 1));
                    break;
                case Instruction.PUSH_CONSTANT:
                    s.put(TYPE_INT, p.constant(operand));
                    break;
                case Instruction.LOAD_INT: case Instruction.LOAD_ROW:
                    s.putPlace(operand);
                    break;
                case Instruction.STORE_INT: case Instruction.STORE_ROW:
                    s.moveToPlace(operand);
                    break;
                case Instruction.GROW:
                    s.setPlace(operand, TYPE_INT, s.placeValues[operand] + p.signedByte(m, offset + 2));
                    break;
                default:
                    break;
            }
        }

        private void doAlone(State s, int code) {
            switch (code) {
                case Instruction.PUSH_NULL:
                    s.put(TYPE_NULL, 0);
                    break;
                case Instruction.DROP:
                    s.take();
                    break;
                case Instruction.DOUBLE:
                    s.putAgain();
                    break;
                case Instruction.EXCHANGE:
                    s.exchange();
                    break;
                case Instruction.NEGATE:
                    s.put(TYPE_INT, -s.take());
                    break;
                case Instruction.NEW_ROW:
                    s.put(TYPE_ROW, newRow(s.take()));
                    break;
                case Instruction.COUNT_ELEMENTS:
                    s.put(TYPE_INT, lengths[s.take()]);
                    break;
                case Instruction.LOAD_ELEMENT:
                    int index = s.take();
                    s.put(TYPE_INT, elements[s.take() * MOST_ELEMENTS + index]);
                    break;
                case Instruction.STORE_ELEMENT:
                    storeElement(s);
                    break;
                default:
                    int higher = s.take();
                    s.put(TYPE_INT, reckoned(code, s.take(), higher));
                    break;
            }
        }

        private void storeElement(State s) {
            int value = s.take();
            int index = s.take();
            elements[s.take() * MOST_ELEMENTS + index] = value;
        }

        private int reckoned(int code, int lower, int higher) {
            switch (code) {
                case Instruction.ADD:
                    return lower + higher;
                case Instruction.SUBTRACT:
                    return lower - higher;
                case Instruction.MULTIPLY:
                    return lower * higher;
                default:
                    return higher == 0 ? 0 : lower / higher;
            }
        }
    }
}
