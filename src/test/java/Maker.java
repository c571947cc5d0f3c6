import java.util.ArrayList;
import java.util.List;
import java.util.Map;
import java.util.Random;
import java.util.TreeMap;

/** Makes files of random programs: such as checking accepts, with loops, frames and calls. */
final class Maker {
    private static final int[] CODES = {1, 16, 16, 18, 21, 21, 25, 25, 54, 58, 46, 46, 79, 79, 87, 89, 95, 96, 100,
        104, 108, 116, 132, 153, 154, 155, 156, 157, 158, 159, 160, 161, 162, 163, 164, 198, 199, 167, 172, 176,
        177, 184, 184, 188, 188, 190, 190};
    private static final int ROOM_FOR_THE_END = 36;

    private final Random random;
    private final Model model = new Model();

    // The method that is being made.
    private Model.Part part;
    private List<Integer> code;
    private Model.Frame state;
    private Map<Integer, Model.Frame> waiting;

    Maker(Random random) {
        this.random = random;
    }

    /** A file, or null if this try came out too long. */
    int[] make() {
        int constants = random.nextInt(5);
        for (int k = 0; k < constants; k++) {
            model.constants.add(random.nextBoolean() ? random.nextInt() : random.nextInt(20) - 10);
        }
        int count = 1 + random.nextInt(4);
        for (int k = 0; k < count; k++) {
            model.parts.add(head());
        }
        int[] file = TestKit.bytes(202, TestKit.constants(rowOf(model.constants)), count);
        for (Model.Part p : model.parts) {
            part = p;
            int[] method = method();
            if (method == null) {
                return null;
            }
            file = TestKit.bytes(file, method);
        }
        return file.length <= 240 ? file : null;
    }

    private static int[] rowOf(List<Integer> numbers) {
        int[] row = new int[numbers.size()];
        for (int k = 0; k < row.length; k++) {
            row[k] = numbers.get(k);
        }
        return row;
    }

    private Model.Part head() {
        Model.Part p = new Model.Part();
        int parameters = random.nextInt(4);
        for (int k = 0; k < parameters; k++) {
            p.parameters.add(1 + random.nextInt(2));
        }
        p.returns = random.nextInt(3);
        p.depth = 1 + random.nextInt(6);
        p.places = parameters + random.nextInt(7 - parameters);
        return p;
    }

    private int[] method() {
        code = new ArrayList<>();
        waiting = new TreeMap<>();
        state = new Model.Frame();
        state.places.addAll(part.parameters);
        while (state.places.size() < part.places) {
            state.places.add(0);
        }
        int wanted = 3 + random.nextInt(60 - ROOM_FOR_THE_END);
        while (code.size() < wanted && (state != null || !waiting.isEmpty())) {
            if (state == null || random.nextInt(8) == 0) {
                putFrame();
            }
            anInstruction();
        }
        while (state != null || !waiting.isEmpty()) {
            if (state == null) {
                putFrame();
            }
            aReturn();
        }
        if (code.size() > 60 || part.frames.size() > 8) {
            return null;
        }
        int[] all = TestKit.bytes(part.parameters.size(), rowOf(part.parameters), part.returns, part.depth,
            part.places, code.size(), rowOf(code), part.frames.size());
        for (Map.Entry<Integer, Model.Frame> f : part.frames.entrySet()) {
            all = TestKit.bytes(all, TestKit.frame(f.getKey(), rowOf(f.getValue().places),
                rowOf(f.getValue().stack)));
        }
        return all;
    }

    /** A frame here, for the state and for all waiting jumps that can go to the same. */
    private void putFrame() {
        if (part.frames.containsKey(code.size())) {
            return;
        }
        Model.Frame frame = state == null ? waiting.values().iterator().next().copy() : state.copy();
        List<Integer> arriving = new ArrayList<>();
        for (Map.Entry<Integer, Model.Frame> w : waiting.entrySet()) {
            Model.Frame both = merged(frame, w.getValue());
            if (both != null) {
                frame = both;
                arriving.add(w.getKey());
            }
        }
        for (int k = 0; k < frame.places.size(); k++) {
            if (random.nextInt(12) == 0) {
                frame.places.set(k, 0);
            }
        }
        for (int from : arriving) {
            setTarget(from, code.size());
            waiting.remove(from);
        }
        part.frames.put(code.size(), frame);
        state = frame.copy();
    }

    private void setTarget(int from, int target) {
        code.set(from + 1, (target - from) >> 8 & 255);
        code.set(from + 2, (target - from) & 255);
    }

    private static Model.Frame merged(Model.Frame a, Model.Frame b) {
        if (a.stack.size() != b.stack.size()) {
            return null;
        }
        Model.Frame both = new Model.Frame();
        for (int k = 0; k < a.places.size(); k++) {
            both.places.add(merged(a.places.get(k), b.places.get(k)));
        }
        for (int k = 0; k < a.stack.size(); k++) {
            int type = merged(a.stack.get(k), b.stack.get(k));
            if (type == 0) {
                return null;
            }
            both.stack.add(type);
        }
        return both;
    }

    private static int merged(int a, int b) {
        if (a == b) {
            return a;
        }
        return a + b == 5 ? 2 : 0;
    }

    private void anInstruction() {
        for (int tries = 0; tries < 40; tries++) {
            Model.Step step = new Model.Step();
            step.code = CODES[random.nextInt(CODES.length)];
            if (!hasOperands(step)) {
                continue;
            }
            Model.Frame behind = state.copy();
            if (!model.changes(part, step, behind)) {
                continue;
            }
            if (!Model.jumps(step.code)) {
                put(step);
            } else if (!putJump(step.code, behind)) {
                continue;
            }
            boolean ends = step.code == 167 || step.code == 172 || step.code == 176 || step.code == 177;
            state = ends ? null : behind;
            return;
        }
        aReturn();
    }

    private boolean hasOperands(Model.Step step) {
        switch (step.code) {
            case 21: case 25: case 54: case 58: case 132:
                step.first = part.places == 0 ? -1 : random.nextInt(part.places);
                step.second = random.nextInt(4) == 0 ? random.nextInt(256) : random.nextBoolean() ? 255 : 1;
                return step.first >= 0;
            case 16:
                step.first = random.nextInt(3) == 0 ? random.nextInt(256) : random.nextInt(9);
                return true;
            case 18:
                step.first = model.constants.isEmpty() ? -1 : random.nextInt(model.constants.size());
                return step.first >= 0;
            case 184:
                step.first = random.nextInt(model.parts.size());
                return true;
            default:
                return true;
        }
    }

    private void put(Model.Step step) {
        code.add(step.code);
        switch (step.code) {
            case 16: case 18: case 21: case 25: case 54: case 58: case 184:
                code.add(step.first);
                break;
            case 132:
                code.add(step.first);
                code.add(step.second);
                break;
            default:
                break;
        }
    }

    /** Back to a frame that the state is good for, or forward to one that is still to come. */
    private boolean putJump(int jump, Model.Frame behind) {
        int from = code.size();
        List<Integer> back = new ArrayList<>();
        for (Map.Entry<Integer, Model.Frame> f : part.frames.entrySet()) {
            if (Model.good(behind, f.getValue())) {
                back.add(f.getKey());
            }
        }
        boolean forward = back.isEmpty() || random.nextBoolean();
        if (forward && (waiting.size() >= 3 || part.frames.size() + waiting.size() >= 7)) {
            return false;
        }
        code.add(jump);
        code.add(0);
        code.add(0);
        if (forward) {
            waiting.put(from, behind.copy());
        } else {
            setTarget(from, back.get(random.nextInt(back.size())));
        }
        return true;
    }

    private void aReturn() {
        if (part.returns != 0 && state.stack.size() == part.depth) {
            code.add(87);
        }
        if (part.returns == 1) {
            code.add(16);
            code.add(random.nextInt(256));
            code.add(172);
        } else if (part.returns == 2) {
            code.add(1);
            code.add(176);
        } else {
            code.add(177);
        }
        state = null;
    }
}
