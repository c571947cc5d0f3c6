import java.util.ArrayList;
import java.util.Arrays;
import java.util.List;
import java.util.Map;
import java.util.TreeMap;

/**
 * The document once more, written apart from the program and in another way: trees of objects, Java's own
 * stack for calls, exceptions for every end. RandomTest compares the two.
 */
final class Model {
    static final class Failure extends RuntimeException {
        private static final long serialVersionUID = 1L;
        final int number;

        Failure(int number) {
            super(null, null, false, false);
            this.number = number;
        }
    }

    /** An instruction with its operands as numbers; target is absolute. */
    static final class Step {
        int code;
        int first;
        int second;
        int target;
        int next;
    }

    static final class Frame {
        final List<Integer> places = new ArrayList<>();
        final List<Integer> stack = new ArrayList<>();

        Frame copy() {
            Frame other = new Frame();
            other.places.addAll(places);
            other.stack.addAll(stack);
            return other;
        }
    }

    static final class Part {
        final List<Integer> parameters = new ArrayList<>();
        int returns;
        int depth;
        int places;
        int length;
        final Map<Integer, Step> steps = new TreeMap<>();
        final Map<Integer, Frame> frames = new TreeMap<>();
    }

    final List<Integer> constants = new ArrayList<>();
    final List<Part> parts = new ArrayList<>();
    private int[] file;
    private int at;

    int steps;
    int result;
    private int rows;
    private int underWay;

    /** The program of the file; a Failure has the number of the byte. */
    static Model of(int[] file) {
        Model model = new Model();
        model.file = file;
        model.readAll();
        return model;
    }

    int methodCount() {
        return parts.size();
    }

    private int take(int low, int high) {
        if (at == file.length || file[at] < low || file[at] > high) {
            throw new Failure(at);
        }
        return file[at++];
    }

    private void readAll() {
        take(202, 202);
        for (int n = take(0, 4); n > 0; n--) {
            int number = 0;
            for (int k = 0; k < 4; k++) {
                number = number * 256 + take(0, 255);
            }
            constants.add(number);
        }
        int count = take(1, 4);
        while (parts.size() < count) {
            parts.add(readPart(count));
        }
        if (at != file.length) {
            throw new Failure(at);
        }
    }

    private Part readPart(int count) {
        Part part = new Part();
        for (int n = take(0, 3); n > 0; n--) {
            part.parameters.add(take(1, 2));
        }
        part.returns = take(0, 2);
        part.depth = take(0, 6);
        part.places = take(part.parameters.size(), 6);
        part.length = take(1, 60);
        int begin = at;
        while (at < begin + part.length) {
            int offset = at - begin;
            part.steps.put(offset, readStep(part, offset, begin + part.length, count));
        }
        int last = -1;
        for (int n = take(0, 8); n > 0; n--) {
            last = take(last + 1, part.length - 1);
            Frame frame = new Frame();
            for (int k = 0; k < part.places; k++) {
                frame.places.add(take(0, 3));
            }
            for (int k = take(0, part.depth); k > 0; k--) {
                frame.stack.add(take(1, 3));
            }
            part.frames.put(last, frame);
        }
        for (Step step : part.steps.values()) {
            if (jumps(step.code) && !part.steps.containsKey(step.target)) {
                throw new Failure(at);
            }
        }
        if (!part.steps.keySet().containsAll(part.frames.keySet())) {
            throw new Failure(at);
        }
        return part;
    }

    static boolean jumps(int code) {
        return code >= 153 && code <= 164 || code == 167 || code == 198 || code == 199;
    }

    private int operand(int end, int limit) {
        if (at == end) {
            throw new Failure(at);
        }
        return take(0, limit - 1);
    }

    private Step readStep(Part part, int offset, int end, int count) {
        Step step = new Step();
        step.code = take(0, 255);
        if (jumps(step.code)) {
            int high = operand(end, 256);
            step.target = offset + (short) (high * 256 + operand(end, 256));
        } else {
            switch (step.code) {
                case 21, 25, 54, 58 -> step.first = operand(end, part.places);
                case 132 -> {
                    step.first = operand(end, part.places);
                    step.second = (byte) operand(end, 256);
                }
                case 16 -> step.first = (byte) operand(end, 256);
                case 18 -> step.first = operand(end, constants.size());
                case 184 -> step.first = operand(end, count);
                case 1, 46, 79, 87, 89, 95, 96, 100, 104, 108, 116, 172, 176, 177, 188, 190 -> { }
                default -> throw new Failure(at - 1);
            }
        }
        step.next = at - end + part.length;
        return step;
    }

    // Checking: a state is a Frame, null if there is none.

    private static boolean good(int type, int declared) {
        return switch (declared) {
            case 0 -> true;
            case 2 -> type == 2 || type == 3;
            default -> type == declared;
        };
    }

    static boolean good(Frame state, Frame declared) {
        if (declared == null || state.stack.size() != declared.stack.size()) {
            return false;
        }
        for (int k = 0; k < state.places.size(); k++) {
            if (!good(state.places.get(k), declared.places.get(k))) {
                return false;
            }
        }
        for (int k = 0; k < state.stack.size(); k++) {
            if (!good(state.stack.get(k), declared.stack.get(k))) {
                return false;
            }
        }
        return true;
    }

    int check(int method) {
        Part part = parts.get(method);
        Frame state = new Frame();
        state.places.addAll(part.parameters);
        while (state.places.size() < part.places) {
            state.places.add(0);
        }
        for (Map.Entry<Integer, Step> entry : part.steps.entrySet()) {
            int offset = entry.getKey();
            Frame declared = part.frames.get(offset);
            if (declared != null) {
                if (state != null && !good(state, declared)) {
                    return offset;
                }
                state = declared.copy();
            }
            if (state == null) {
                return offset;
            }
            Step step = entry.getValue();
            if (!changes(part, step, state)) {
                return offset;
            }
            if (jumps(step.code) && !good(state, part.frames.get(step.target))) {
                return offset;
            }
            if (step.code == 167 || step.code == 172 || step.code == 176 || step.code == 177) {
                state = null;
            }
        }
        return state == null ? -1 : part.length;
    }

    /** Makes the state that behind the instruction, if it is one that may be done in it. */
    boolean changes(Part part, Step step, Frame state) {
        try {
            abstractly(part, step, state);
        } catch (Failure f) {
            return false;
        }
        return state.stack.size() <= part.depth;
    }

    private static int pop(Frame state, int declared) {
        if (state.stack.isEmpty()) {
            throw new Failure(0);
        }
        int type = state.stack.remove(state.stack.size() - 1);
        return need(type, declared);
    }

    private static int need(int type, int declared) {
        if (!good(type, declared)) {
            throw new Failure(0);
        }
        return type;
    }

    private static void needReturn(Part part, int type) {
        if (part.returns != type) {
            throw new Failure(0);
        }
    }

    private void abstractly(Part part, Step step, Frame s) {
        int code = step.code;
        if (code >= 153 && code <= 158) {
            pop(s, 1);
        } else if (code >= 159 && code <= 164) {
            pop(s, 1);
            pop(s, 1);
        } else if (code == 184) {
            Part called = parts.get(step.first);
            for (int k = called.parameters.size() - 1; k >= 0; k--) {
                pop(s, called.parameters.get(k));
            }
            if (called.returns != 0) {
                s.stack.add(called.returns);
            }
        } else {
            abstractlyAlone(part, step, s);
        }
    }

    private static void abstractlyAlone(Part part, Step step, Frame s) {
        switch (step.code) {
            case 1 -> s.stack.add(3);
            case 16, 18 -> s.stack.add(1);
            case 21 -> s.stack.add(need(s.places.get(step.first), 1));
            case 25 -> s.stack.add(need(s.places.get(step.first), 2));
            case 54 -> s.places.set(step.first, pop(s, 1));
            case 58 -> s.places.set(step.first, pop(s, 2));
            case 132 -> need(s.places.get(step.first), 1);
            case 46 -> {
                pop(s, 1);
                pop(s, 2);
                s.stack.add(1);
            }
            case 79 -> {
                pop(s, 1);
                pop(s, 1);
                pop(s, 2);
            }
            case 87 -> pop(s, 0);
            case 89 -> {
                int type = pop(s, 0);
                s.stack.addAll(List.of(type, type));
            }
            case 95 -> {
                int higher = pop(s, 0);
                int lower = pop(s, 0);
                s.stack.addAll(List.of(higher, lower));
            }
            case 96, 100, 104, 108 -> {
                pop(s, 1);
                pop(s, 1);
                s.stack.add(1);
            }
            case 116 -> s.stack.add(pop(s, 1));
            case 188 -> {
                pop(s, 1);
                s.stack.add(2);
            }
            case 190 -> {
                pop(s, 2);
                s.stack.add(1);
            }
            case 198, 199 -> pop(s, 2);
            case 172 -> {
                pop(s, 1);
                needReturn(part, 1);
            }
            case 176 -> {
                pop(s, 2);
                needReturn(part, 2);
            }
            case 177 -> needReturn(part, 0);
            default -> { }
        }
    }

    // Running: an Integer is an INT, an int[] a ROW, NOTHING_THERE is NOTHING and NULL_THERE is NULL.

    private static final Object NOTHING_THERE = new Object();
    private static final Object NULL_THERE = new Object();

    /** How the run of a method ends. */
    int run(int method, int... numbers) {
        steps = 0;
        rows = 0;
        underWay = 0;
        List<Object> arguments = new ArrayList<>();
        List<Integer> types = parts.get(method).parameters;
        for (int k = 0; k < types.size(); k++) {
            arguments.add(argument(types.get(k), numbers[k]));
        }
        try {
            Object value = perform(method, arguments);
            if (value instanceof Integer number) {
                result = number;
            } else if (value instanceof int[] row) {
                result = row.length;
            } else {
                result = value == NULL_THERE ? -1 : 0;
            }
            return 0;
        } catch (Failure end) {
            return end.number;
        }
    }

    private Object argument(int type, int number) {
        if (type == 1) {
            return number;
        }
        if (number < 0) {
            return NULL_THERE;
        }
        rows++;
        int[] row = new int[number % 8];
        for (int k = 0; k < row.length; k++) {
            row[k] = number + k;
        }
        return row;
    }

    private static final int STUCK = 1;

    private static boolean is(Object value, int declared) {
        return switch (declared) {
            case 1 -> value instanceof Integer;
            case 2 -> value instanceof int[] || value == NULL_THERE;
            default -> true;
        };
    }

    /** Looks at the highest values, which must be there and be of these kinds, and at the depth behind. */
    private static Object[] top(Part part, List<Object> stack, int puts, int... kinds) {
        int from = stack.size() - kinds.length;
        if (from < 0 || from + puts > part.depth) {
            throw new Failure(STUCK);
        }
        Object[] taken = new Object[kinds.length];
        for (int k = 0; k < kinds.length; k++) {
            taken[k] = stack.get(from + k);
            if (!is(taken[k], kinds[k])) {
                throw new Failure(STUCK);
            }
        }
        stack.subList(from, stack.size()).clear();
        return taken;
    }

    private static Object place(List<Object> places, int k, int kind) {
        if (!is(places.get(k), kind)) {
            throw new Failure(STUCK);
        }
        return places.get(k);
    }

    private Object perform(int method, List<Object> arguments) {
        if (++underWay == 5) {
            throw new Failure(6);
        }
        Part part = parts.get(method);
        List<Object> places = new ArrayList<>(arguments);
        while (places.size() < part.places) {
            places.add(NOTHING_THERE);
        }
        List<Object> stack = new ArrayList<>();
        int offset = 0;
        while (true) {
            if (steps == 200) {
                throw new Failure(6);
            }
            Step step = part.steps.get(offset);
            if (step == null) {
                throw new Failure(STUCK);
            }
            if (step.code == 172 || step.code == 176 || step.code == 177) {
                Object value = finish(part, step.code, stack);
                steps++;
                underWay--;
                return value;
            }
            if (step.code == 184) {
                callFrom(part, step, stack);
                offset = step.next;
            } else if (jumps(step.code)) {
                offset = decide(part, step.code, stack) ? step.target : step.next;
                steps++;
            } else {
                concretely(part, step, places, stack);
                offset = step.next;
                steps++;
            }
        }
    }

    private static Object finish(Part part, int code, List<Object> stack) {
        int type = code == 172 ? 1 : code == 176 ? 2 : 0;
        if (part.returns != type) {
            throw new Failure(STUCK);
        }
        return type == 0 ? NOTHING_THERE : top(part, stack, 0, type)[0];
    }

    private void callFrom(Part part, Step step, List<Object> stack) {
        Part called = parts.get(step.first);
        int[] kinds = new int[called.parameters.size()];
        for (int k = 0; k < kinds.length; k++) {
            kinds[k] = called.parameters.get(k);
        }
        Object[] taken = top(part, stack, called.returns == 0 ? 0 : 1, kinds);
        if (underWay == 4) {
            throw new Failure(6);
        }
        steps++;
        Object value = perform(step.first, Arrays.asList(taken));
        if (called.returns != 0) {
            stack.add(value);
        }
    }

    private static boolean decide(Part part, int code, List<Object> stack) {
        if (code == 167) {
            return true;
        }
        if (code == 198) {
            return top(part, stack, 0, 2)[0] == NULL_THERE;
        }
        if (code == 199) {
            return top(part, stack, 0, 2)[0] != NULL_THERE;
        }
        Object[] taken = code < 159 ? top(part, stack, 0, 1) : top(part, stack, 0, 1, 1);
        int order = Integer.compare((Integer) taken[0], code < 159 ? 0 : (Integer) taken[1]);
        return switch ((code - 153) % 6) {
            case 0 -> order == 0;
            case 1 -> order != 0;
            case 2 -> order < 0;
            case 3 -> order >= 0;
            case 4 -> order > 0;
            default -> order <= 0;
        };
    }

    private static int[] rowOf(Object value) {
        if (value instanceof int[] row) {
            return row;
        }
        throw new Failure(4);
    }

    private static int indexIn(int[] row, Object value) {
        int index = (Integer) value;
        if (index < 0 || index >= row.length) {
            throw new Failure(3);
        }
        return index;
    }

    private void concretely(Part part, Step step, List<Object> places, List<Object> stack) {
        switch (step.code) {
            case 1 -> {
                top(part, stack, 1);
                stack.add(NULL_THERE);
            }
            case 16 -> {
                top(part, stack, 1);
                stack.add(step.first);
            }
            case 18 -> {
                top(part, stack, 1);
                stack.add(constants.get(step.first));
            }
            case 21, 25 -> {
                top(part, stack, 1);
                stack.add(place(places, step.first, step.code == 21 ? 1 : 2));
            }
            case 54 -> places.set(step.first, top(part, stack, 0, 1)[0]);
            case 58 -> places.set(step.first, top(part, stack, 0, 2)[0]);
            case 132 -> places.set(step.first, (Integer) place(places, step.first, 1) + step.second);
            case 46 -> {
                Object[] t = top(part, stack, 1, 2, 1);
                int[] row = rowOf(t[0]);
                stack.add(row[indexIn(row, t[1])]);
            }
            case 79 -> {
                Object[] t = top(part, stack, 0, 2, 1, 1);
                int[] row = rowOf(t[0]);
                row[indexIn(row, t[1])] = (Integer) t[2];
            }
            case 87 -> top(part, stack, 0, 0);
            case 89 -> {
                Object value = top(part, stack, 2, 0)[0];
                stack.addAll(Arrays.asList(value, value));
            }
            case 95 -> {
                Object[] t = top(part, stack, 2, 0, 0);
                stack.addAll(Arrays.asList(t[1], t[0]));
            }
            case 96, 100, 104, 108 -> {
                Object[] t = top(part, stack, 1, 1, 1);
                stack.add(reckon(step.code, (Integer) t[0], (Integer) t[1]));
            }
            case 116 -> stack.add(-(Integer) top(part, stack, 1, 1)[0]);
            case 188 -> {
                int size = (Integer) top(part, stack, 1, 1)[0];
                if (size < 0 || size > 8 || rows == 8) {
                    throw new Failure(5);
                }
                rows++;
                stack.add(new int[size]);
            }
            case 190 -> stack.add(rowOf(top(part, stack, 1, 2)[0]).length);
            default -> throw new IllegalStateException("not an instruction");
        }
    }

    private static int reckon(int code, long lower, long higher) {
        if (code == 108 && higher == 0) {
            throw new Failure(2);
        }
        return (int) switch (code) {
            case 96 -> lower + higher;
            case 100 -> lower - higher;
            case 104 -> lower * higher;
            default -> lower / higher;
        };
    }
}
